theorem dX4_slotOf_10 : decode cX4_slotOf 10 = .ok (.invokevirtual 68, 3) := dc_of qt_q150_cX4_slotOf 6 rfl
theorem dX4_slotOf_13 : decode cX4_slotOf 13 = .ok (.goto 4, 3) := dc_of qt_q150_cX4_slotOf 7 rfl
theorem dX4_slotOf_16 : decode cX4_slotOf 16 = .ok (.iconst (-1), 1) := dc_of qt_q150_cX4_slotOf 8 rfl
theorem dX4_slotOf_17 : decode cX4_slotOf 17 = .ok (.istore 4, 2) := dc_of qt_q150_cX4_slotOf 9 rfl
theorem dX4_slotOf_19 : decode cX4_slotOf 19 = .ok (.iload 4, 2) := dc_of qt_q150_cX4_slotOf 10 rfl
theorem dX4_slotOf_21 : decode cX4_slotOf 21 = .ok (.ifCond .lt 18, 3) := dc_of qt_q150_cX4_slotOf 11 rfl
theorem dX4_slotOf_24 : decode cX4_slotOf 24 = .ok (.iload_n 3, 1) := dc_of qt_q150_cX4_slotOf 12 rfl
theorem dX4_slotOf_25 : decode cX4_slotOf 25 = .ok (.ifCond .lt 14, 3) := dc_of qt_q150_cX4_slotOf 13 rfl
theorem dX4_slotOf_28 : decode cX4_slotOf 28 = .ok (.iload_n 3, 1) := dc_of qt_q150_cX4_slotOf 14 rfl
theorem dX4_slotOf_29 : decode cX4_slotOf 29 = .ok (.aload_n 0, 1) := dc_of qt_q150_cX4_slotOf 15 rfl
theorem dX4_slotOf_30 : decode cX4_slotOf 30 = .ok (.iload_n 1, 1) := dc_of qt_q150_cX4_slotOf 16 rfl
theorem dX4_slotOf_31 : decode cX4_slotOf 31 = .ok (.iload 4, 2) := dc_of qt_q150_cX4_slotOf 17 rfl
theorem dX4_slotOf_33 : decode cX4_slotOf 33 = .ok (.invokevirtual 71, 3) := dc_of qt_q150_cX4_slotOf 18 rfl
theorem dX4_slotOf_36 : decode cX4_slotOf 36 = .ok (.if_icmp .lt 7, 3) := dc_of qt_q150_cX4_slotOf 19 rfl
theorem dX4_slotOf_39 : decode cX4_slotOf 39 = .ok (.iconst (-1), 1) := dc_of qt_q150_cX4_slotOf 20 rfl
theorem dX4_slotOf_40 : decode cX4_slotOf 40 = .ok (.goto 15, 3) := dc_of qt_q150_cX4_slotOf 21 rfl
theorem dX4_slotOf_43 : decode cX4_slotOf 43 = .ok (.sipush 256, 3) := dc_of qt_q150_cX4_slotOf 22 rfl
theorem dX4_slotOf_46 : decode cX4_slotOf 46 = .ok (.iload_n 1, 1) := dc_of qt_q150_cX4_slotOf 23 rfl
def ql_q151_cX4_slotOf : List (Nat × Jvm.ClassFile.Instr × Nat) := [(47, .imul, 1), (48, .iload 4, 2), (50, .iadd, 1), (51, .iconst 1, 1), (52, .iadd, 1), (53, .iload_n 3, 1), (54, .iadd, 1), (55, .ireturn, 1)]
theorem qt_q151_cX4_slotOf : dcAll cX4_slotOf ql_q151_cX4_slotOf = true := by decide +kernel
theorem dX4_slotOf_47 : decode cX4_slotOf 47 = .ok (.imul, 1) := dc_of qt_q151_cX4_slotOf 0 rfl
theorem dX4_slotOf_48 : decode cX4_slotOf 48 = .ok (.iload 4, 2) := dc_of qt_q151_cX4_slotOf 1 rfl
theorem dX4_slotOf_50 : decode cX4_slotOf 50 = .ok (.iadd, 1) := dc_of qt_q151_cX4_slotOf 2 rfl
theorem dX4_slotOf_51 : decode cX4_slotOf 51 = .ok (.iconst 1, 1) := dc_of qt_q151_cX4_slotOf 3 rfl
theorem dX4_slotOf_52 : decode cX4_slotOf 52 = .ok (.iadd, 1) := dc_of qt_q151_cX4_slotOf 4 rfl
theorem dX4_slotOf_53 : decode cX4_slotOf 53 = .ok (.iload_n 3, 1) := dc_of qt_q151_cX4_slotOf 5 rfl
theorem dX4_slotOf_54 : decode cX4_slotOf 54 = .ok (.iadd, 1) := dc_of qt_q151_cX4_slotOf 6 rfl
theorem dX4_slotOf_55 : decode cX4_slotOf 55 = .ok (.ireturn, 1) := dc_of qt_q151_cX4_slotOf 7 rfl
set_option maxRecDepth 20000 in
theorem ggX4_set_X4_slotOf : GoodIn wsX4_set wsX4_slotOf := goodIn_r _ [7, 8, 9, 6, 10, 11, 12, 13, 14, 15, 16, 17, 18, 19, 20, 2, 21, 22, 23, 24, 25, 26, 27, 28, 29, 30, 31, 32, 33, 34, 35, 36, 37, 38, 39, 40, 41, 42, 43, 44, 45, 46, 47, 48, 49, 50, 51, 52, 53] rfl (by decide +kernel)
def ql_q152_cX4_set : List (Nat × Jvm.ClassFile.Instr × Nat) := [(0, .aload_n 0, 1), (1, .iload_n 1, 1), (2, .iload_n 2, 1), (3, .iload_n 3, 1), (4, .invokevirtual 74, 3), (7, .istore 5, 2), (9, .aload_n 0, 1), (10, .iload 5, 2), (12, .ifCond .ge 7, 3), (15, .iconst 1, 1), (16, .goto 4, 3), (19, .iconst 0, 1), (20, .putfield 49, 3), (23, .iload 5, 2), (25, .ifCond .ge 5, 3), (28, .iconst 0, 1), (29, .ireturn, 1), (30, .aload_n 0, 1), (31, .getfield 16, 3), (34, .iload 5, 2), (36, .iaload, 1), (37, .istore 6, 2), (39, .aload_n 0, 1), (40, .getfield 16, 3)]
theorem qt_q152_cX4_set : dcAll cX4_set ql_q152_cX4_set = true := by decide +kernel
theorem dX4_set_0 : decode cX4_set 0 = .ok (.aload_n 0, 1) := dc_of qt_q152_cX4_set 0 rfl
theorem dX4_set_1 : decode cX4_set 1 = .ok (.iload_n 1, 1) := dc_of qt_q152_cX4_set 1 rfl
theorem dX4_set_2 : decode cX4_set 2 = .ok (.iload_n 2, 1) := dc_of qt_q152_cX4_set 2 rfl
theorem dX4_set_3 : decode cX4_set 3 = .ok (.iload_n 3, 1) := dc_of qt_q152_cX4_set 3 rfl
theorem dX4_set_4 : decode cX4_set 4 = .ok (.invokevirtual 74, 3) := dc_of qt_q152_cX4_set 4 rfl
theorem dX4_set_7 : decode cX4_set 7 = .ok (.istore 5, 2) := dc_of qt_q152_cX4_set 5 rfl
theorem dX4_set_9 : decode cX4_set 9 = .ok (.aload_n 0, 1) := dc_of qt_q152_cX4_set 6 rfl
theorem dX4_set_10 : decode cX4_set 10 = .ok (.iload 5, 2) := dc_of qt_q152_cX4_set 7 rfl
theorem dX4_set_12 : decode cX4_set 12 = .ok (.ifCond .ge 7, 3) := dc_of qt_q152_cX4_set 8 rfl
theorem dX4_set_15 : decode cX4_set 15 = .ok (.iconst 1, 1) := dc_of qt_q152_cX4_set 9 rfl
theorem dX4_set_16 : decode cX4_set 16 = .ok (.goto 4, 3) := dc_of qt_q152_cX4_set 10 rfl
theorem dX4_set_19 : decode cX4_set 19 = .ok (.iconst 0, 1) := dc_of qt_q152_cX4_set 11 rfl
theorem dX4_set_20 : decode cX4_set 20 = .ok (.putfield 49, 3) := dc_of qt_q152_cX4_set 12 rfl
theorem dX4_set_23 : decode cX4_set 23 = .ok (.iload 5, 2) := dc_of qt_q152_cX4_set 13 rfl
theorem dX4_set_25 : decode cX4_set 25 = .ok (.ifCond .ge 5, 3) := dc_of qt_q152_cX4_set 14 rfl
theorem dX4_set_28 : decode cX4_set 28 = .ok (.iconst 0, 1) := dc_of qt_q152_cX4_set 15 rfl
theorem dX4_set_29 : decode cX4_set 29 = .ok (.ireturn, 1) := dc_of qt_q152_cX4_set 16 rfl
theorem dX4_set_30 : decode cX4_set 30 = .ok (.aload_n 0, 1) := dc_of qt_q152_cX4_set 17 rfl
theorem dX4_set_31 : decode cX4_set 31 = .ok (.getfield 16, 3) := dc_of qt_q152_cX4_set 18 rfl
theorem dX4_set_34 : decode cX4_set 34 = .ok (.iload 5, 2) := dc_of qt_q152_cX4_set 19 rfl
theorem dX4_set_36 : decode cX4_set 36 = .ok (.iaload, 1) := dc_of qt_q152_cX4_set 20 rfl
theorem dX4_set_37 : decode cX4_set 37 = .ok (.istore 6, 2) := dc_of qt_q152_cX4_set 21 rfl
theorem dX4_set_39 : decode cX4_set 39 = .ok (.aload_n 0, 1) := dc_of qt_q152_cX4_set 22 rfl
theorem dX4_set_40 : decode cX4_set 40 = .ok (.getfield 16, 3) := dc_of qt_q152_cX4_set 23 rfl
def ql_q153_cX4_set : List (Nat × Jvm.ClassFile.Instr × Nat) := [(43, .iload 5, 2), (45, .iload 4, 2), (47, .iastore, 1), (48, .iload 6, 2), (50, .ireturn, 1)]
theorem qt_q153_cX4_set : dcAll cX4_set ql_q153_cX4_set = true := by decide +kernel
theorem dX4_set_43 : decode cX4_set 43 = .ok (.iload 5, 2) := dc_of qt_q153_cX4_set 0 rfl
theorem dX4_set_45 : decode cX4_set 45 = .ok (.iload 4, 2) := dc_of qt_q153_cX4_set 1 rfl
theorem dX4_set_47 : decode cX4_set 47 = .ok (.iastore, 1) := dc_of qt_q153_cX4_set 2 rfl
theorem dX4_set_48 : decode cX4_set 48 = .ok (.iload 6, 2) := dc_of qt_q153_cX4_set 3 rfl
theorem dX4_set_50 : decode cX4_set 50 = .ok (.ireturn, 1) := dc_of qt_q153_cX4_set 4 rfl
set_option maxRecDepth 20000 in
theorem ggX4_at_X4_slotOf : GoodIn wsX4_at wsX4_slotOf := goodIn_r _ [7, 8, 9, 6, 10, 11, 12, 13, 14, 15, 16, 17, 18, 19, 20, 2, 21, 22, 23, 24, 25, 26, 27, 28, 29, 30, 31, 32, 33, 34, 35, 36, 37, 38, 39, 40, 41, 42, 43, 44, 45, 46, 47, 48, 49, 50, 51, 52, 53] rfl (by decide +kernel)
def ql_q154_cX4_at : List (Nat × Jvm.ClassFile.Instr × Nat) := [(0, .aload_n 0, 1), (1, .iload_n 1, 1), (2, .iload_n 2, 1), (3, .iload_n 3, 1), (4, .invokevirtual 74, 3), (7, .istore 4, 2), (9, .aload_n 0, 1), (10, .iload 4, 2), (12, .ifCond .ge 7, 3), (15, .iconst 1, 1), (16, .goto 4, 3), (19, .iconst 0, 1), (20, .putfield 49, 3), (23, .iload 4, 2), (25, .ifCond .ge 7, 3), (28, .iconst 0, 1), (29, .goto 10, 3), (32, .aload_n 0, 1), (33, .getfield 16, 3), (36, .iload 4, 2), (38, .iaload, 1), (39, .ireturn, 1)]
theorem qt_q154_cX4_at : dcAll cX4_at ql_q154_cX4_at = true := by decide +kernel
theorem dX4_at_0 : decode cX4_at 0 = .ok (.aload_n 0, 1) := dc_of qt_q154_cX4_at 0 rfl
theorem dX4_at_1 : decode cX4_at 1 = .ok (.iload_n 1, 1) := dc_of qt_q154_cX4_at 1 rfl
theorem dX4_at_2 : decode cX4_at 2 = .ok (.iload_n 2, 1) := dc_of qt_q154_cX4_at 2 rfl
theorem dX4_at_3 : decode cX4_at 3 = .ok (.iload_n 3, 1) := dc_of qt_q154_cX4_at 3 rfl
theorem dX4_at_4 : decode cX4_at 4 = .ok (.invokevirtual 74, 3) := dc_of qt_q154_cX4_at 4 rfl
theorem dX4_at_7 : decode cX4_at 7 = .ok (.istore 4, 2) := dc_of qt_q154_cX4_at 5 rfl
theorem dX4_at_9 : decode cX4_at 9 = .ok (.aload_n 0, 1) := dc_of qt_q154_cX4_at 6 rfl
theorem dX4_at_10 : decode cX4_at 10 = .ok (.iload 4, 2) := dc_of qt_q154_cX4_at 7 rfl
theorem dX4_at_12 : decode cX4_at 12 = .ok (.ifCond .ge 7, 3) := dc_of qt_q154_cX4_at 8 rfl
theorem dX4_at_15 : decode cX4_at 15 = .ok (.iconst 1, 1) := dc_of qt_q154_cX4_at 9 rfl
theorem dX4_at_16 : decode cX4_at 16 = .ok (.goto 4, 3) := dc_of qt_q154_cX4_at 10 rfl
theorem dX4_at_19 : decode cX4_at 19 = .ok (.iconst 0, 1) := dc_of qt_q154_cX4_at 11 rfl
theorem dX4_at_20 : decode cX4_at 20 = .ok (.putfield 49, 3) := dc_of qt_q154_cX4_at 12 rfl
theorem dX4_at_23 : decode cX4_at 23 = .ok (.iload 4, 2) := dc_of qt_q154_cX4_at 13 rfl
theorem dX4_at_25 : decode cX4_at 25 = .ok (.ifCond .ge 7, 3) := dc_of qt_q154_cX4_at 14 rfl
theorem dX4_at_28 : decode cX4_at 28 = .ok (.iconst 0, 1) := dc_of qt_q154_cX4_at 15 rfl
theorem dX4_at_29 : decode cX4_at 29 = .ok (.goto 10, 3) := dc_of qt_q154_cX4_at 16 rfl
theorem dX4_at_32 : decode cX4_at 32 = .ok (.aload_n 0, 1) := dc_of qt_q154_cX4_at 17 rfl
theorem dX4_at_33 : decode cX4_at 33 = .ok (.getfield 16, 3) := dc_of qt_q154_cX4_at 18 rfl
theorem dX4_at_36 : decode cX4_at 36 = .ok (.iload 4, 2) := dc_of qt_q154_cX4_at 19 rfl
theorem dX4_at_38 : decode cX4_at 38 = .ok (.iaload, 1) := dc_of qt_q154_cX4_at 20 rfl
theorem dX4_at_39 : decode cX4_at 39 = .ok (.ireturn, 1) := dc_of qt_q154_cX4_at 21 rfl
set_option maxRecDepth 20000 in
theorem ggX4_root_X4_isHeap : GoodIn wsX4_root wsX4_isHeap := goodIn_r _ [6] rfl (by decide +kernel)
def ql_q155_cX4_root : List (Nat × Jvm.ClassFile.Instr × Nat) := [(0, .aload_n 0, 1), (1, .iload_n 1, 1), (2, .invokestatic 65, 3), (5, .ifCond .eq 12, 3), (8, .iload_n 2, 1), (9, .ifCond .lt 8, 3), (12, .iload_n 2, 1), (13, .iconst 3, 1), (14, .if_icmp .le 7, 3), (17, .iconst 1, 1), (18, .goto 4, 3), (21, .iconst 0, 1), (22, .putfield 49, 3), (25, .aload_n 0, 1), (26, .getfield 49, 3), (29, .iconst 1, 1), (30, .if_icmp .ne 5, 3), (33, .iconst 0, 1), (34, .ireturn, 1), (35, .aload_n 0, 1), (36, .getfield 19, 3), (39, .iconst 4, 1), (40, .iload_n 1, 1), (41, .imul, 1)]
theorem qt_q155_cX4_root : dcAll cX4_root ql_q155_cX4_root = true := by decide +kernel
theorem dX4_root_0 : decode cX4_root 0 = .ok (.aload_n 0, 1) := dc_of qt_q155_cX4_root 0 rfl
theorem dX4_root_1 : decode cX4_root 1 = .ok (.iload_n 1, 1) := dc_of qt_q155_cX4_root 1 rfl
theorem dX4_root_2 : decode cX4_root 2 = .ok (.invokestatic 65, 3) := dc_of qt_q155_cX4_root 2 rfl
theorem dX4_root_5 : decode cX4_root 5 = .ok (.ifCond .eq 12, 3) := dc_of qt_q155_cX4_root 3 rfl
theorem dX4_root_8 : decode cX4_root 8 = .ok (.iload_n 2, 1) := dc_of qt_q155_cX4_root 4 rfl
theorem dX4_root_9 : decode cX4_root 9 = .ok (.ifCond .lt 8, 3) := dc_of qt_q155_cX4_root 5 rfl
theorem dX4_root_12 : decode cX4_root 12 = .ok (.iload_n 2, 1) := dc_of qt_q155_cX4_root 6 rfl
theorem dX4_root_13 : decode cX4_root 13 = .ok (.iconst 3, 1) := dc_of qt_q155_cX4_root 7 rfl
theorem dX4_root_14 : decode cX4_root 14 = .ok (.if_icmp .le 7, 3) := dc_of qt_q155_cX4_root 8 rfl
theorem dX4_root_17 : decode cX4_root 17 = .ok (.iconst 1, 1) := dc_of qt_q155_cX4_root 9 rfl
theorem dX4_root_18 : decode cX4_root 18 = .ok (.goto 4, 3) := dc_of qt_q155_cX4_root 10 rfl
theorem dX4_root_21 : decode cX4_root 21 = .ok (.iconst 0, 1) := dc_of qt_q155_cX4_root 11 rfl
theorem dX4_root_22 : decode cX4_root 22 = .ok (.putfield 49, 3) := dc_of qt_q155_cX4_root 12 rfl
theorem dX4_root_25 : decode cX4_root 25 = .ok (.aload_n 0, 1) := dc_of qt_q155_cX4_root 13 rfl
theorem dX4_root_26 : decode cX4_root 26 = .ok (.getfield 49, 3) := dc_of qt_q155_cX4_root 14 rfl
theorem dX4_root_29 : decode cX4_root 29 = .ok (.iconst 1, 1) := dc_of qt_q155_cX4_root 15 rfl
theorem dX4_root_30 : decode cX4_root 30 = .ok (.if_icmp .ne 5, 3) := dc_of qt_q155_cX4_root 16 rfl
theorem dX4_root_33 : decode cX4_root 33 = .ok (.iconst 0, 1) := dc_of qt_q155_cX4_root 17 rfl
theorem dX4_root_34 : decode cX4_root 34 = .ok (.ireturn, 1) := dc_of qt_q155_cX4_root 18 rfl
theorem dX4_root_35 : decode cX4_root 35 = .ok (.aload_n 0, 1) := dc_of qt_q155_cX4_root 19 rfl
theorem dX4_root_36 : decode cX4_root 36 = .ok (.getfield 19, 3) := dc_of qt_q155_cX4_root 20 rfl
theorem dX4_root_39 : decode cX4_root 39 = .ok (.iconst 4, 1) := dc_of qt_q155_cX4_root 21 rfl
theorem dX4_root_40 : decode cX4_root 40 = .ok (.iload_n 1, 1) := dc_of qt_q155_cX4_root 22 rfl
theorem dX4_root_41 : decode cX4_root 41 = .ok (.imul, 1) := dc_of qt_q155_cX4_root 23 rfl
def ql_q156_cX4_root : List (Nat × Jvm.ClassFile.Instr × Nat) := [(42, .iload_n 2, 1), (43, .iadd, 1), (44, .iaload, 1), (45, .istore 4, 2), (47, .aload_n 0, 1), (48, .getfield 19, 3), (51, .iconst 4, 1), (52, .iload_n 1, 1), (53, .imul, 1), (54, .iload_n 2, 1), (55, .iadd, 1), (56, .iload_n 3, 1), (57, .iastore, 1), (58, .iload 4, 2), (60, .ireturn, 1)]
theorem qt_q156_cX4_root : dcAll cX4_root ql_q156_cX4_root = true := by decide +kernel
theorem dX4_root_42 : decode cX4_root 42 = .ok (.iload_n 2, 1) := dc_of qt_q156_cX4_root 0 rfl
theorem dX4_root_43 : decode cX4_root 43 = .ok (.iadd, 1) := dc_of qt_q156_cX4_root 1 rfl
theorem dX4_root_44 : decode cX4_root 44 = .ok (.iaload, 1) := dc_of qt_q156_cX4_root 2 rfl
theorem dX4_root_45 : decode cX4_root 45 = .ok (.istore 4, 2) := dc_of qt_q156_cX4_root 3 rfl
theorem dX4_root_47 : decode cX4_root 47 = .ok (.aload_n 0, 1) := dc_of qt_q156_cX4_root 4 rfl
theorem dX4_root_48 : decode cX4_root 48 = .ok (.getfield 19, 3) := dc_of qt_q156_cX4_root 5 rfl
theorem dX4_root_51 : decode cX4_root 51 = .ok (.iconst 4, 1) := dc_of qt_q156_cX4_root 6 rfl
theorem dX4_root_52 : decode cX4_root 52 = .ok (.iload_n 1, 1) := dc_of qt_q156_cX4_root 7 rfl
theorem dX4_root_53 : decode cX4_root 53 = .ok (.imul, 1) := dc_of qt_q156_cX4_root 8 rfl
theorem dX4_root_54 : decode cX4_root 54 = .ok (.iload_n 2, 1) := dc_of qt_q156_cX4_root 9 rfl
theorem dX4_root_55 : decode cX4_root 55 = .ok (.iadd, 1) := dc_of qt_q156_cX4_root 10 rfl
theorem dX4_root_56 : decode cX4_root 56 = .ok (.iload_n 3, 1) := dc_of qt_q156_cX4_root 11 rfl
theorem dX4_root_57 : decode cX4_root 57 = .ok (.iastore, 1) := dc_of qt_q156_cX4_root 12 rfl
theorem dX4_root_58 : decode cX4_root 58 = .ok (.iload 4, 2) := dc_of qt_q156_cX4_root 13 rfl
theorem dX4_root_60 : decode cX4_root 60 = .ok (.ireturn, 1) := dc_of qt_q156_cX4_root 14 rfl
set_option maxRecDepth 20000 in
theorem ggX4_isWord_X4_isHeap : GoodIn wsX4_isWord wsX4_isHeap := goodIn_r _ [4] rfl (by decide +kernel)
def ql_q157_cX4_isWord : List (Nat × Jvm.ClassFile.Instr × Nat) := [(0, .iload_n 0, 1), (1, .invokestatic 65, 3), (4, .ifCond .eq 18, 3), (7, .iload_n 1, 1), (8, .ifCond .lt 14, 3), (11, .iload_n 1, 1), (12, .sipush 256, 3), (15, .if_icmp .ge 7, 3), (18, .iconst 1, 1), (19, .goto 4, 3), (22, .iconst 0, 1), (23, .ireturn, 1)]
theorem qt_q157_cX4_isWord : dcAll cX4_isWord ql_q157_cX4_isWord = true := by decide +kernel
theorem dX4_isWord_0 : decode cX4_isWord 0 = .ok (.iload_n 0, 1) := dc_of qt_q157_cX4_isWord 0 rfl
theorem dX4_isWord_1 : decode cX4_isWord 1 = .ok (.invokestatic 65, 3) := dc_of qt_q157_cX4_isWord 1 rfl
theorem dX4_isWord_4 : decode cX4_isWord 4 = .ok (.ifCond .eq 18, 3) := dc_of qt_q157_cX4_isWord 2 rfl
theorem dX4_isWord_7 : decode cX4_isWord 7 = .ok (.iload_n 1, 1) := dc_of qt_q157_cX4_isWord 3 rfl
theorem dX4_isWord_8 : decode cX4_isWord 8 = .ok (.ifCond .lt 14, 3) := dc_of qt_q157_cX4_isWord 4 rfl
theorem dX4_isWord_11 : decode cX4_isWord 11 = .ok (.iload_n 1, 1) := dc_of qt_q157_cX4_isWord 5 rfl
theorem dX4_isWord_12 : decode cX4_isWord 12 = .ok (.sipush 256, 3) := dc_of qt_q157_cX4_isWord 6 rfl
theorem dX4_isWord_15 : decode cX4_isWord 15 = .ok (.if_icmp .ge 7, 3) := dc_of qt_q157_cX4_isWord 7 rfl
theorem dX4_isWord_18 : decode cX4_isWord 18 = .ok (.iconst 1, 1) := dc_of qt_q157_cX4_isWord 8 rfl
theorem dX4_isWord_19 : decode cX4_isWord 19 = .ok (.goto 4, 3) := dc_of qt_q157_cX4_isWord 9 rfl
theorem dX4_isWord_22 : decode cX4_isWord 22 = .ok (.iconst 0, 1) := dc_of qt_q157_cX4_isWord 10 rfl
theorem dX4_isWord_23 : decode cX4_isWord 23 = .ok (.ireturn, 1) := dc_of qt_q157_cX4_isWord 11 rfl
set_option maxRecDepth 20000 in
theorem ggX4_poke_X4_isWord : GoodIn wsX4_poke wsX4_isWord := goodIn_r _ [6, 7, 8, 5, 9] rfl (by decide +kernel)
def ql_q158_cX4_poke : List (Nat × Jvm.ClassFile.Instr × Nat) := [(0, .aload_n 0, 1), (1, .iload_n 1, 1), (2, .iload_n 2, 1), (3, .invokestatic 78, 3), (6, .ifCond .eq 7, 3), (9, .iconst 0, 1), (10, .goto 4, 3), (13, .iconst 1, 1), (14, .putfield 49, 3), (17, .aload_n 0, 1), (18, .getfield 49, 3), (21, .iconst 1, 1), (22, .if_icmp .ne 5, 3), (25, .iconst 0, 1), (26, .ireturn, 1), (27, .aload_n 0, 1), (28, .getfield 16, 3), (31, .sipush 256, 3), (34, .iload_n 1, 1), (35, .imul, 1), (36, .iload_n 2, 1), (37, .iadd, 1), (38, .aload_n 0, 1), (39, .getfield 16, 3)]
theorem qt_q158_cX4_poke : dcAll cX4_poke ql_q158_cX4_poke = true := by decide +kernel
theorem dX4_poke_0 : decode cX4_poke 0 = .ok (.aload_n 0, 1) := dc_of qt_q158_cX4_poke 0 rfl
theorem dX4_poke_1 : decode cX4_poke 1 = .ok (.iload_n 1, 1) := dc_of qt_q158_cX4_poke 1 rfl
theorem dX4_poke_2 : decode cX4_poke 2 = .ok (.iload_n 2, 1) := dc_of qt_q158_cX4_poke 2 rfl
theorem dX4_poke_3 : decode cX4_poke 3 = .ok (.invokestatic 78, 3) := dc_of qt_q158_cX4_poke 3 rfl
theorem dX4_poke_6 : decode cX4_poke 6 = .ok (.ifCond .eq 7, 3) := dc_of qt_q158_cX4_poke 4 rfl
theorem dX4_poke_9 : decode cX4_poke 9 = .ok (.iconst 0, 1) := dc_of qt_q158_cX4_poke 5 rfl
theorem dX4_poke_10 : decode cX4_poke 10 = .ok (.goto 4, 3) := dc_of qt_q158_cX4_poke 6 rfl
theorem dX4_poke_13 : decode cX4_poke 13 = .ok (.iconst 1, 1) := dc_of qt_q158_cX4_poke 7 rfl
theorem dX4_poke_14 : decode cX4_poke 14 = .ok (.putfield 49, 3) := dc_of qt_q158_cX4_poke 8 rfl
theorem dX4_poke_17 : decode cX4_poke 17 = .ok (.aload_n 0, 1) := dc_of qt_q158_cX4_poke 9 rfl
theorem dX4_poke_18 : decode cX4_poke 18 = .ok (.getfield 49, 3) := dc_of qt_q158_cX4_poke 10 rfl
theorem dX4_poke_21 : decode cX4_poke 21 = .ok (.iconst 1, 1) := dc_of qt_q158_cX4_poke 11 rfl
theorem dX4_poke_22 : decode cX4_poke 22 = .ok (.if_icmp .ne 5, 3) := dc_of qt_q158_cX4_poke 12 rfl
theorem dX4_poke_25 : decode cX4_poke 25 = .ok (.iconst 0, 1) := dc_of qt_q158_cX4_poke 13 rfl
theorem dX4_poke_26 : decode cX4_poke 26 = .ok (.ireturn, 1) := dc_of qt_q158_cX4_poke 14 rfl
theorem dX4_poke_27 : decode cX4_poke 27 = .ok (.aload_n 0, 1) := dc_of qt_q158_cX4_poke 15 rfl
theorem dX4_poke_28 : decode cX4_poke 28 = .ok (.getfield 16, 3) := dc_of qt_q158_cX4_poke 16 rfl
theorem dX4_poke_31 : decode cX4_poke 31 = .ok (.sipush 256, 3) := dc_of qt_q158_cX4_poke 17 rfl
theorem dX4_poke_34 : decode cX4_poke 34 = .ok (.iload_n 1, 1) := dc_of qt_q158_cX4_poke 18 rfl
theorem dX4_poke_35 : decode cX4_poke 35 = .ok (.imul, 1) := dc_of qt_q158_cX4_poke 19 rfl
theorem dX4_poke_36 : decode cX4_poke 36 = .ok (.iload_n 2, 1) := dc_of qt_q158_cX4_poke 20 rfl
theorem dX4_poke_37 : decode cX4_poke 37 = .ok (.iadd, 1) := dc_of qt_q158_cX4_poke 21 rfl
theorem dX4_poke_38 : decode cX4_poke 38 = .ok (.aload_n 0, 1) := dc_of qt_q158_cX4_poke 22 rfl
theorem dX4_poke_39 : decode cX4_poke 39 = .ok (.getfield 16, 3) := dc_of qt_q158_cX4_poke 23 rfl
def ql_q159_cX4_poke : List (Nat × Jvm.ClassFile.Instr × Nat) := [(42, .sipush 256, 3), (45, .iload_n 1, 1), (46, .imul, 1), (47, .iload_n 2, 1), (48, .iadd, 1), (49, .iaload, 1), (50, .iload_n 3, 1), (51, .ixor, 1), (52, .iastore, 1), (53, .aload_n 0, 1), (54, .getfield 16, 3), (57, .sipush 256, 3), (60, .iload_n 1, 1), (61, .imul, 1), (62, .iload_n 2, 1), (63, .iadd, 1), (64, .iaload, 1), (65, .ireturn, 1)]
theorem qt_q159_cX4_poke : dcAll cX4_poke ql_q159_cX4_poke = true := by decide +kernel
theorem dX4_poke_42 : decode cX4_poke 42 = .ok (.sipush 256, 3) := dc_of qt_q159_cX4_poke 0 rfl
theorem dX4_poke_45 : decode cX4_poke 45 = .ok (.iload_n 1, 1) := dc_of qt_q159_cX4_poke 1 rfl
theorem dX4_poke_46 : decode cX4_poke 46 = .ok (.imul, 1) := dc_of qt_q159_cX4_poke 2 rfl
theorem dX4_poke_47 : decode cX4_poke 47 = .ok (.iload_n 2, 1) := dc_of qt_q159_cX4_poke 3 rfl
theorem dX4_poke_48 : decode cX4_poke 48 = .ok (.iadd, 1) := dc_of qt_q159_cX4_poke 4 rfl
theorem dX4_poke_49 : decode cX4_poke 49 = .ok (.iaload, 1) := dc_of qt_q159_cX4_poke 5 rfl
theorem dX4_poke_50 : decode cX4_poke 50 = .ok (.iload_n 3, 1) := dc_of qt_q159_cX4_poke 6 rfl
theorem dX4_poke_51 : decode cX4_poke 51 = .ok (.ixor, 1) := dc_of qt_q159_cX4_poke 7 rfl
theorem dX4_poke_52 : decode cX4_poke 52 = .ok (.iastore, 1) := dc_of qt_q159_cX4_poke 8 rfl
theorem dX4_poke_53 : decode cX4_poke 53 = .ok (.aload_n 0, 1) := dc_of qt_q159_cX4_poke 9 rfl
theorem dX4_poke_54 : decode cX4_poke 54 = .ok (.getfield 16, 3) := dc_of qt_q159_cX4_poke 10 rfl
theorem dX4_poke_57 : decode cX4_poke 57 = .ok (.sipush 256, 3) := dc_of qt_q159_cX4_poke 11 rfl
theorem dX4_poke_60 : decode cX4_poke 60 = .ok (.iload_n 1, 1) := dc_of qt_q159_cX4_poke 12 rfl
theorem dX4_poke_61 : decode cX4_poke 61 = .ok (.imul, 1) := dc_of qt_q159_cX4_poke 13 rfl
theorem dX4_poke_62 : decode cX4_poke 62 = .ok (.iload_n 2, 1) := dc_of qt_q159_cX4_poke 14 rfl
theorem dX4_poke_63 : decode cX4_poke 63 = .ok (.iadd, 1) := dc_of qt_q159_cX4_poke 15 rfl
theorem dX4_poke_64 : decode cX4_poke 64 = .ok (.iaload, 1) := dc_of qt_q159_cX4_poke 16 rfl
theorem dX4_poke_65 : decode cX4_poke 65 = .ok (.ireturn, 1) := dc_of qt_q159_cX4_poke 17 rfl
set_option maxRecDepth 20000 in
theorem ggX4_word_X4_isWord : GoodIn wsX4_word wsX4_isWord := goodIn_r _ [6, 7, 8, 5, 9] rfl (by decide +kernel)
def ql_q160_cX4_word : List (Nat × Jvm.ClassFile.Instr × Nat) := [(0, .aload_n 0, 1), (1, .iload_n 1, 1), (2, .iload_n 2, 1), (3, .invokestatic 78, 3), (6, .ifCond .eq 7, 3), (9, .iconst 0, 1), (10, .goto 4, 3), (13, .iconst 1, 1), (14, .putfield 49, 3), (17, .aload_n 0, 1), (18, .getfield 49, 3), (21, .iconst 1, 1), (22, .if_icmp .ne 7, 3), (25, .iconst 0, 1), (26, .goto 15, 3), (29, .aload_n 0, 1), (30, .getfield 16, 3), (33, .sipush 256, 3), (36, .iload_n 1, 1), (37, .imul, 1), (38, .iload_n 2, 1), (39, .iadd, 1), (40, .iaload, 1), (41, .ireturn, 1)]
theorem qt_q160_cX4_word : dcAll cX4_word ql_q160_cX4_word = true := by decide +kernel
theorem dX4_word_0 : decode cX4_word 0 = .ok (.aload_n 0, 1) := dc_of qt_q160_cX4_word 0 rfl
theorem dX4_word_1 : decode cX4_word 1 = .ok (.iload_n 1, 1) := dc_of qt_q160_cX4_word 1 rfl
theorem dX4_word_2 : decode cX4_word 2 = .ok (.iload_n 2, 1) := dc_of qt_q160_cX4_word 2 rfl
theorem dX4_word_3 : decode cX4_word 3 = .ok (.invokestatic 78, 3) := dc_of qt_q160_cX4_word 3 rfl
theorem dX4_word_6 : decode cX4_word 6 = .ok (.ifCond .eq 7, 3) := dc_of qt_q160_cX4_word 4 rfl
theorem dX4_word_9 : decode cX4_word 9 = .ok (.iconst 0, 1) := dc_of qt_q160_cX4_word 5 rfl
theorem dX4_word_10 : decode cX4_word 10 = .ok (.goto 4, 3) := dc_of qt_q160_cX4_word 6 rfl
theorem dX4_word_13 : decode cX4_word 13 = .ok (.iconst 1, 1) := dc_of qt_q160_cX4_word 7 rfl
theorem dX4_word_14 : decode cX4_word 14 = .ok (.putfield 49, 3) := dc_of qt_q160_cX4_word 8 rfl
theorem dX4_word_17 : decode cX4_word 17 = .ok (.aload_n 0, 1) := dc_of qt_q160_cX4_word 9 rfl
theorem dX4_word_18 : decode cX4_word 18 = .ok (.getfield 49, 3) := dc_of qt_q160_cX4_word 10 rfl
theorem dX4_word_21 : decode cX4_word 21 = .ok (.iconst 1, 1) := dc_of qt_q160_cX4_word 11 rfl
theorem dX4_word_22 : decode cX4_word 22 = .ok (.if_icmp .ne 7, 3) := dc_of qt_q160_cX4_word 12 rfl
theorem dX4_word_25 : decode cX4_word 25 = .ok (.iconst 0, 1) := dc_of qt_q160_cX4_word 13 rfl
theorem dX4_word_26 : decode cX4_word 26 = .ok (.goto 15, 3) := dc_of qt_q160_cX4_word 14 rfl
theorem dX4_word_29 : decode cX4_word 29 = .ok (.aload_n 0, 1) := dc_of qt_q160_cX4_word 15 rfl
theorem dX4_word_30 : decode cX4_word 30 = .ok (.getfield 16, 3) := dc_of qt_q160_cX4_word 16 rfl
theorem dX4_word_33 : decode cX4_word 33 = .ok (.sipush 256, 3) := dc_of qt_q160_cX4_word 17 rfl
theorem dX4_word_36 : decode cX4_word 36 = .ok (.iload_n 1, 1) := dc_of qt_q160_cX4_word 18 rfl
theorem dX4_word_37 : decode cX4_word 37 = .ok (.imul, 1) := dc_of qt_q160_cX4_word 19 rfl
theorem dX4_word_38 : decode cX4_word 38 = .ok (.iload_n 2, 1) := dc_of qt_q160_cX4_word 20 rfl
theorem dX4_word_39 : decode cX4_word 39 = .ok (.iadd, 1) := dc_of qt_q160_cX4_word 21 rfl
theorem dX4_word_40 : decode cX4_word 40 = .ok (.iaload, 1) := dc_of qt_q160_cX4_word 22 rfl
theorem dX4_word_41 : decode cX4_word 41 = .ok (.ireturn, 1) := dc_of qt_q160_cX4_word 23 rfl
def ql_q161_cX4_isNumber : List (Nat × Jvm.ClassFile.Instr × Nat) := [(0, .iload_n 0, 1), (1, .iconst 1, 1), (2, .iand, 1), (3, .iconst 1, 1), (4, .if_icmp .ne 7, 3), (7, .iconst 1, 1), (8, .goto 4, 3), (11, .iconst 0, 1), (12, .ireturn, 1)]
theorem qt_q161_cX4_isNumber : dcAll cX4_isNumber ql_q161_cX4_isNumber = true := by decide +kernel
theorem dX4_isNumber_0 : decode cX4_isNumber 0 = .ok (.iload_n 0, 1) := dc_of qt_q161_cX4_isNumber 0 rfl
theorem dX4_isNumber_1 : decode cX4_isNumber 1 = .ok (.iconst 1, 1) := dc_of qt_q161_cX4_isNumber 1 rfl
theorem dX4_isNumber_2 : decode cX4_isNumber 2 = .ok (.iand, 1) := dc_of qt_q161_cX4_isNumber 2 rfl
theorem dX4_isNumber_3 : decode cX4_isNumber 3 = .ok (.iconst 1, 1) := dc_of qt_q161_cX4_isNumber 3 rfl
theorem dX4_isNumber_4 : decode cX4_isNumber 4 = .ok (.if_icmp .ne 7, 3) := dc_of qt_q161_cX4_isNumber 4 rfl
theorem dX4_isNumber_7 : decode cX4_isNumber 7 = .ok (.iconst 1, 1) := dc_of qt_q161_cX4_isNumber 5 rfl
theorem dX4_isNumber_8 : decode cX4_isNumber 8 = .ok (.goto 4, 3) := dc_of qt_q161_cX4_isNumber 6 rfl
theorem dX4_isNumber_11 : decode cX4_isNumber 11 = .ok (.iconst 0, 1) := dc_of qt_q161_cX4_isNumber 7 rfl
theorem dX4_isNumber_12 : decode cX4_isNumber 12 = .ok (.ireturn, 1) := dc_of qt_q161_cX4_isNumber 8 rfl
set_option maxRecDepth 20000 in
theorem ggX4_isReference_X4_find : GoodIn wsX4_isReference wsX4_find := goodIn_r _ [5, 6, 7, 8, 9, 10, 4, 11, 12, 13, 14, 15, 16, 17, 18, 19, 20, 21, 22, 23, 24, 25, 26, 27, 28, 29, 30, 31, 32, 33, 34, 35, 36, 37, 38, 39, 40, 41] rfl (by decide +kernel)
def ql_q162_cX4_isReference : List (Nat × Jvm.ClassFile.Instr × Nat) := [(0, .iload_n 2, 1), (1, .ifCond .eq 16, 3), (4, .aload_n 0, 1), (5, .iload_n 1, 1), (6, .iload_n 2, 1), (7, .invokevirtual 68, 3), (10, .ifCond .lt 7, 3), (13, .iconst 1, 1), (14, .goto 4, 3), (17, .iconst 0, 1), (18, .ireturn, 1)]
theorem qt_q162_cX4_isReference : dcAll cX4_isReference ql_q162_cX4_isReference = true := by decide +kernel
theorem dX4_isReference_0 : decode cX4_isReference 0 = .ok (.iload_n 2, 1) := dc_of qt_q162_cX4_isReference 0 rfl
theorem dX4_isReference_1 : decode cX4_isReference 1 = .ok (.ifCond .eq 16, 3) := dc_of qt_q162_cX4_isReference 1 rfl
theorem dX4_isReference_4 : decode cX4_isReference 4 = .ok (.aload_n 0, 1) := dc_of qt_q162_cX4_isReference 2 rfl
theorem dX4_isReference_5 : decode cX4_isReference 5 = .ok (.iload_n 1, 1) := dc_of qt_q162_cX4_isReference 3 rfl
theorem dX4_isReference_6 : decode cX4_isReference 6 = .ok (.iload_n 2, 1) := dc_of qt_q162_cX4_isReference 4 rfl
theorem dX4_isReference_7 : decode cX4_isReference 7 = .ok (.invokevirtual 68, 3) := dc_of qt_q162_cX4_isReference 5 rfl
theorem dX4_isReference_10 : decode cX4_isReference 10 = .ok (.ifCond .lt 7, 3) := dc_of qt_q162_cX4_isReference 6 rfl
theorem dX4_isReference_13 : decode cX4_isReference 13 = .ok (.iconst 1, 1) := dc_of qt_q162_cX4_isReference 7 rfl
theorem dX4_isReference_14 : decode cX4_isReference 14 = .ok (.goto 4, 3) := dc_of qt_q162_cX4_isReference 8 rfl
theorem dX4_isReference_17 : decode cX4_isReference 17 = .ok (.iconst 0, 1) := dc_of qt_q162_cX4_isReference 9 rfl
theorem dX4_isReference_18 : decode cX4_isReference 18 = .ok (.ireturn, 1) := dc_of qt_q162_cX4_isReference 10 rfl
set_option maxRecDepth 20000 in
theorem ggX4_faultOf_X4_isNumber : GoodIn wsX4_faultOf wsX4_isNumber := goodIn_r _ [4] rfl (by decide +kernel)
set_option maxRecDepth 20000 in
theorem ggX4_faultOf_X4_isReference : GoodIn wsX4_faultOf wsX4_isReference := goodIn_r _ [8, 9, 10, 11, 3, 12, 13, 14, 15, 16, 17, 18, 19, 20, 21, 22, 23, 24, 25, 26, 27, 28, 29, 30, 31, 32, 33, 34, 35, 36, 37, 38, 39, 40, 41, 42, 43, 44, 45, 46, 47, 48] rfl (by decide +kernel)
def ql_q163_cX4_faultOf : List (Nat × Jvm.ClassFile.Instr × Nat) := [(0, .iload_n 2, 1), (1, .invokestatic 81, 3), (4, .ifCond .ne 18, 3), (7, .iload_n 2, 1), (8, .ifCond .eq 14, 3), (11, .aload_n 0, 1), (12, .iload_n 1, 1), (13, .iload_n 2, 1), (14, .invokevirtual 84, 3), (17, .ifCond .ne 5, 3), (20, .iconst 3, 1), (21, .ireturn, 1), (22, .iload_n 3, 1), (23, .ifCond .ne 14, 3), (26, .iload_n 2, 1), (27, .invokestatic 81, 3), (30, .ifCond .eq 7, 3), (33, .iconst 4, 1), (34, .goto 20, 3), (37, .iload_n 3, 1), (38, .iconst 1, 1), (39, .if_icmp .ne 14, 3), (42, .iload_n 2, 1), (43, .invokestatic 81, 3)]
theorem qt_q163_cX4_faultOf : dcAll cX4_faultOf ql_q163_cX4_faultOf = true := by decide +kernel
theorem dX4_faultOf_0 : decode cX4_faultOf 0 = .ok (.iload_n 2, 1) := dc_of qt_q163_cX4_faultOf 0 rfl
theorem dX4_faultOf_1 : decode cX4_faultOf 1 = .ok (.invokestatic 81, 3) := dc_of qt_q163_cX4_faultOf 1 rfl
theorem dX4_faultOf_4 : decode cX4_faultOf 4 = .ok (.ifCond .ne 18, 3) := dc_of qt_q163_cX4_faultOf 2 rfl
theorem dX4_faultOf_7 : decode cX4_faultOf 7 = .ok (.iload_n 2, 1) := dc_of qt_q163_cX4_faultOf 3 rfl
theorem dX4_faultOf_8 : decode cX4_faultOf 8 = .ok (.ifCond .eq 14, 3) := dc_of qt_q163_cX4_faultOf 4 rfl
theorem dX4_faultOf_11 : decode cX4_faultOf 11 = .ok (.aload_n 0, 1) := dc_of qt_q163_cX4_faultOf 5 rfl
theorem dX4_faultOf_12 : decode cX4_faultOf 12 = .ok (.iload_n 1, 1) := dc_of qt_q163_cX4_faultOf 6 rfl
theorem dX4_faultOf_13 : decode cX4_faultOf 13 = .ok (.iload_n 2, 1) := dc_of qt_q163_cX4_faultOf 7 rfl
theorem dX4_faultOf_14 : decode cX4_faultOf 14 = .ok (.invokevirtual 84, 3) := dc_of qt_q163_cX4_faultOf 8 rfl
theorem dX4_faultOf_17 : decode cX4_faultOf 17 = .ok (.ifCond .ne 5, 3) := dc_of qt_q163_cX4_faultOf 9 rfl
theorem dX4_faultOf_20 : decode cX4_faultOf 20 = .ok (.iconst 3, 1) := dc_of qt_q163_cX4_faultOf 10 rfl
theorem dX4_faultOf_21 : decode cX4_faultOf 21 = .ok (.ireturn, 1) := dc_of qt_q163_cX4_faultOf 11 rfl
theorem dX4_faultOf_22 : decode cX4_faultOf 22 = .ok (.iload_n 3, 1) := dc_of qt_q163_cX4_faultOf 12 rfl
theorem dX4_faultOf_23 : decode cX4_faultOf 23 = .ok (.ifCond .ne 14, 3) := dc_of qt_q163_cX4_faultOf 13 rfl
theorem dX4_faultOf_26 : decode cX4_faultOf 26 = .ok (.iload_n 2, 1) := dc_of qt_q163_cX4_faultOf 14 rfl
theorem dX4_faultOf_27 : decode cX4_faultOf 27 = .ok (.invokestatic 81, 3) := dc_of qt_q163_cX4_faultOf 15 rfl
theorem dX4_faultOf_30 : decode cX4_faultOf 30 = .ok (.ifCond .eq 7, 3) := dc_of qt_q163_cX4_faultOf 16 rfl
theorem dX4_faultOf_33 : decode cX4_faultOf 33 = .ok (.iconst 4, 1) := dc_of qt_q163_cX4_faultOf 17 rfl
theorem dX4_faultOf_34 : decode cX4_faultOf 34 = .ok (.goto 20, 3) := dc_of qt_q163_cX4_faultOf 18 rfl
theorem dX4_faultOf_37 : decode cX4_faultOf 37 = .ok (.iload_n 3, 1) := dc_of qt_q163_cX4_faultOf 19 rfl
theorem dX4_faultOf_38 : decode cX4_faultOf 38 = .ok (.iconst 1, 1) := dc_of qt_q163_cX4_faultOf 20 rfl
theorem dX4_faultOf_39 : decode cX4_faultOf 39 = .ok (.if_icmp .ne 14, 3) := dc_of qt_q163_cX4_faultOf 21 rfl
theorem dX4_faultOf_42 : decode cX4_faultOf 42 = .ok (.iload_n 2, 1) := dc_of qt_q163_cX4_faultOf 22 rfl
theorem dX4_faultOf_43 : decode cX4_faultOf 43 = .ok (.invokestatic 81, 3) := dc_of qt_q163_cX4_faultOf 23 rfl
def ql_q164_cX4_faultOf : List (Nat × Jvm.ClassFile.Instr × Nat) := [(46, .ifCond .ne 7, 3), (49, .iconst 5, 1), (50, .goto 4, 3), (53, .iconst 0, 1), (54, .ireturn, 1)]
theorem qt_q164_cX4_faultOf : dcAll cX4_faultOf ql_q164_cX4_faultOf = true := by decide +kernel
theorem dX4_faultOf_46 : decode cX4_faultOf 46 = .ok (.ifCond .ne 7, 3) := dc_of qt_q164_cX4_faultOf 0 rfl
theorem dX4_faultOf_49 : decode cX4_faultOf 49 = .ok (.iconst 5, 1) := dc_of qt_q164_cX4_faultOf 1 rfl
theorem dX4_faultOf_50 : decode cX4_faultOf 50 = .ok (.goto 4, 3) := dc_of qt_q164_cX4_faultOf 2 rfl
theorem dX4_faultOf_53 : decode cX4_faultOf 53 = .ok (.iconst 0, 1) := dc_of qt_q164_cX4_faultOf 3 rfl
theorem dX4_faultOf_54 : decode cX4_faultOf 54 = .ok (.ireturn, 1) := dc_of qt_q164_cX4_faultOf 4 rfl
set_option maxRecDepth 20000 in
theorem ggX4_firstFault_X4_isHead : GoodIn wsX4_firstFault wsX4_isHead := goodIn_r _ [7, 8, 9, 6, 10] rfl (by decide +kernel)
set_option maxRecDepth 20000 in
theorem ggX4_firstFault_X4_behind : GoodIn wsX4_firstFault wsX4_behind := goodIn_r _ [14, 2, 1, 4, 5, 6, 7, 8, 9, 10, 39, 40, 41, 42, 43, 44, 45, 46, 47, 48, 49, 50, 51, 52, 53, 54, 55, 56, 57, 58, 59, 60, 61] rfl (by decide +kernel)
set_option maxRecDepth 20000 in
theorem ggX4_firstFault_X4_slotsAt : GoodIn wsX4_firstFault wsX4_slotsAt := goodIn_r _ [18, 2, 39, 40, 41, 42, 43, 44, 45, 46, 47, 48, 49, 50, 51, 52, 53, 54, 55, 56, 57, 58, 59, 60, 61] rfl (by decide +kernel)
set_option maxRecDepth 20000 in
theorem ggX4_firstFault_X4_kindAt : GoodIn wsX4_firstFault wsX4_kindAt := goodIn_r _ [22, 2, 39, 40, 41, 42, 43, 44, 45, 46, 47, 48, 49, 50, 51, 52, 53, 54, 55, 56, 57, 58, 59, 60, 61] rfl (by decide +kernel)
set_option maxRecDepth 20000 in
theorem ggX4_firstFault_X4_faultOf : GoodIn wsX4_firstFault wsX4_faultOf := goodIn_r _ [26, 27, 28, 6, 29, 30, 31, 32, 33, 34, 35, 36, 37, 1, 38, 11, 12, 13, 14, 2, 4, 5, 7, 8, 9, 10, 39, 40, 41, 42, 43, 44, 45, 46, 47, 48, 49, 50, 51, 52, 53, 54, 55, 56, 57, 58, 59, 60, 61] rfl (by decide +kernel)
set_option maxRecDepth 20000 in
theorem ggX4_firstFault_X4_isNumber : GoodIn wsX4_firstFault wsX4_isNumber := goodIn_r _ [29] rfl (by decide +kernel)
