theorem dX3_check_2 : decode cX3_check 2 = .ok (.invokevirtual 39, 3) := dc_of qt_q101_cX3_check 2 rfl
theorem dX3_check_5 : decode cX3_check 5 = .ok (.invokevirtual 82, 3) := dc_of qt_q101_cX3_check 3 rfl
theorem dX3_check_8 : decode cX3_check 8 = .ok (.ireturn, 1) := dc_of qt_q101_cX3_check 4 rfl
set_option maxRecDepth 20000 in
theorem ggX3_move_X3_heapOf : GoodIn wsX3_move wsX3_heapOf := goodIn_ca (goodIn_r _ [5, 6, 7, 8, 95, 96, 97, 98, 99] rfl (by decide +kernel)) (goodIn_sub (fun _ h => List.mem_cons_of_mem _ (List.mem_append_left _ (List.mem_append_left _ (List.mem_append_right _ h)))) (by decide +kernel))
set_option maxRecDepth 20000 in
theorem ggX3_move_X3_needBase : GoodIn wsX3_move wsX3_needBase := goodIn_ca (goodIn_r _ [11, 12, 13, 14] rfl (by decide +kernel)) (goodIn_sub (fun _ h => List.mem_cons_of_mem _ (List.mem_append_left _ (List.mem_append_right _ h))) (by decide +kernel))
set_option maxRecDepth 20000 in
theorem ggX3_move_X3_needValid : GoodIn wsX3_move wsX3_needValid := goodIn_ca (goodIn_r _ [17, 18, 19, 20, 21, 22, 23, 24, 25, 26, 27, 28, 29, 30, 31, 32, 33, 34, 35, 36, 37, 38, 39, 40, 41, 42, 43, 4, 44, 45, 46, 47, 48, 49, 50, 51, 52, 53, 54, 55, 56, 57, 58, 59, 60, 61, 62, 63, 64, 65, 66, 67, 68, 69, 70, 71, 72, 73, 74, 75, 76, 77, 78, 79, 80, 81, 100, 101, 102, 103, 104, 105, 106, 107, 108, 109] rfl (by decide +kernel)) (goodIn_sub (fun _ h => List.mem_cons_of_mem _ (List.mem_append_right _ h)) (by decide +kernel))
set_option maxRecDepth 20000 in
theorem ggX3_move_X1_moveTo : GoodIn wsX3_move wsX1_moveTo := goodIn_r _ [85, 27, 86, 28, 87, 88, 89, 23, 90, 29, 26, 77, 91, 92, 93, 94, 73, 74, 75, 76, 34, 61, 4, 62, 45, 46, 47, 48, 49, 50, 100, 101, 102, 103, 104, 105, 106, 107, 108, 109] rfl (by decide +kernel)
def ql_q102_cX3_move : List (Nat × Jvm.ClassFile.Instr × Nat) := [(0, .aload_n 0, 1), (1, .iload_n 1, 1), (2, .invokevirtual 39, 3), (5, .astore_n 3, 1), (6, .iload_n 2, 1), (7, .invokestatic 86, 3), (10, .aload_n 3, 1), (11, .invokestatic 90, 3), (14, .aload_n 3, 1), (15, .iload_n 2, 1), (16, .invokevirtual 94, 3), (19, .ireturn, 1)]
theorem qt_q102_cX3_move : dcAll cX3_move ql_q102_cX3_move = true := by decide +kernel
theorem dX3_move_0 : decode cX3_move 0 = .ok (.aload_n 0, 1) := dc_of qt_q102_cX3_move 0 rfl
theorem dX3_move_1 : decode cX3_move 1 = .ok (.iload_n 1, 1) := dc_of qt_q102_cX3_move 1 rfl
theorem dX3_move_2 : decode cX3_move 2 = .ok (.invokevirtual 39, 3) := dc_of qt_q102_cX3_move 2 rfl
theorem dX3_move_5 : decode cX3_move 5 = .ok (.astore_n 3, 1) := dc_of qt_q102_cX3_move 3 rfl
theorem dX3_move_6 : decode cX3_move 6 = .ok (.iload_n 2, 1) := dc_of qt_q102_cX3_move 4 rfl
theorem dX3_move_7 : decode cX3_move 7 = .ok (.invokestatic 86, 3) := dc_of qt_q102_cX3_move 5 rfl
theorem dX3_move_10 : decode cX3_move 10 = .ok (.aload_n 3, 1) := dc_of qt_q102_cX3_move 6 rfl
theorem dX3_move_11 : decode cX3_move 11 = .ok (.invokestatic 90, 3) := dc_of qt_q102_cX3_move 7 rfl
theorem dX3_move_14 : decode cX3_move 14 = .ok (.aload_n 3, 1) := dc_of qt_q102_cX3_move 8 rfl
theorem dX3_move_15 : decode cX3_move 15 = .ok (.iload_n 2, 1) := dc_of qt_q102_cX3_move 9 rfl
theorem dX3_move_16 : decode cX3_move 16 = .ok (.invokevirtual 94, 3) := dc_of qt_q102_cX3_move 10 rfl
theorem dX3_move_19 : decode cX3_move 19 = .ok (.ireturn, 1) := dc_of qt_q102_cX3_move 11 rfl
set_option maxRecDepth 20000 in
theorem ggX3_sweep_X3_heapOf : GoodIn wsX3_sweep wsX3_heapOf := goodIn_ca (goodIn_r _ [5, 6, 7, 8, 107, 108, 109, 110, 111] rfl (by decide +kernel)) (goodIn_sub (fun _ h => List.mem_cons_of_mem _ (List.mem_append_left _ (List.mem_append_right _ h))) (by decide +kernel))
set_option maxRecDepth 20000 in
theorem ggX3_sweep_X3_needValid : GoodIn wsX3_sweep wsX3_needValid := goodIn_ca (goodIn_r _ [11, 12, 13, 14, 15, 16, 17, 18, 19, 20, 21, 22, 23, 24, 25, 26, 27, 28, 29, 30, 31, 32, 33, 34, 35, 36, 37, 4, 38, 39, 40, 41, 42, 43, 44, 45, 46, 47, 48, 49, 50, 51, 52, 53, 54, 55, 56, 57, 58, 59, 60, 61, 62, 63, 64, 65, 66, 67, 68, 69, 70, 71, 72, 73, 74, 75, 112, 113, 114, 115, 116, 117, 118, 119, 120, 121] rfl (by decide +kernel)) (goodIn_sub (fun _ h => List.mem_cons_of_mem _ (List.mem_append_right _ h)) (by decide +kernel))
set_option maxRecDepth 20000 in
theorem ggX3_sweep_X1_dropUnreached : GoodIn wsX3_sweep wsX1_dropUnreached := goodIn_r _ [79, 21, 22, 80, 28, 20, 71, 19, 81, 82, 83, 17, 84, 85, 23, 86, 87, 88, 89, 90, 67, 68, 69, 70, 55, 4, 56, 39, 40, 41, 42, 43, 44, 91, 92, 93, 94, 95, 96, 97, 98, 99, 100, 101, 102, 103, 104, 105, 106, 112, 113, 114, 115, 116, 117, 118, 119, 120, 121] rfl (by decide +kernel)
def ql_q103_cX3_sweep : List (Nat × Jvm.ClassFile.Instr × Nat) := [(0, .aload_n 0, 1), (1, .iload_n 1, 1), (2, .invokevirtual 39, 3), (5, .astore_n 2, 1), (6, .aload_n 2, 1), (7, .invokestatic 90, 3), (10, .aload_n 2, 1), (11, .invokevirtual 97, 3), (14, .ireturn, 1)]
theorem qt_q103_cX3_sweep : dcAll cX3_sweep ql_q103_cX3_sweep = true := by decide +kernel
theorem dX3_sweep_0 : decode cX3_sweep 0 = .ok (.aload_n 0, 1) := dc_of qt_q103_cX3_sweep 0 rfl
theorem dX3_sweep_1 : decode cX3_sweep 1 = .ok (.iload_n 1, 1) := dc_of qt_q103_cX3_sweep 1 rfl
theorem dX3_sweep_2 : decode cX3_sweep 2 = .ok (.invokevirtual 39, 3) := dc_of qt_q103_cX3_sweep 2 rfl
theorem dX3_sweep_5 : decode cX3_sweep 5 = .ok (.astore_n 2, 1) := dc_of qt_q103_cX3_sweep 3 rfl
theorem dX3_sweep_6 : decode cX3_sweep 6 = .ok (.aload_n 2, 1) := dc_of qt_q103_cX3_sweep 4 rfl
theorem dX3_sweep_7 : decode cX3_sweep 7 = .ok (.invokestatic 90, 3) := dc_of qt_q103_cX3_sweep 5 rfl
theorem dX3_sweep_10 : decode cX3_sweep 10 = .ok (.aload_n 2, 1) := dc_of qt_q103_cX3_sweep 6 rfl
theorem dX3_sweep_11 : decode cX3_sweep 11 = .ok (.invokevirtual 97, 3) := dc_of qt_q103_cX3_sweep 7 rfl
theorem dX3_sweep_14 : decode cX3_sweep 14 = .ok (.ireturn, 1) := dc_of qt_q103_cX3_sweep 8 rfl
set_option maxRecDepth 20000 in
theorem ggX3_dump_X3_heapOf : GoodIn wsX3_dump wsX3_heapOf := goodIn_ca (goodIn_r _ [6, 7, 8, 9, 130, 131, 132, 133, 134] rfl (by decide +kernel)) (goodIn_sub (fun _ h => List.mem_cons_of_mem _ (List.mem_append_left _ (List.mem_append_right _ h))) (by decide +kernel))
set_option maxRecDepth 20000 in
theorem ggX3_dump_X3_needValid : GoodIn wsX3_dump wsX3_needValid := goodIn_ca (goodIn_r _ [12, 13, 14, 15, 16, 17, 18, 19, 20, 21, 22, 23, 24, 25, 26, 27, 28, 29, 30, 31, 32, 33, 34, 35, 36, 37, 38, 5, 39, 40, 41, 42, 43, 44, 45, 46, 47, 48, 49, 50, 51, 52, 53, 54, 55, 56, 57, 58, 59, 60, 61, 62, 63, 64, 65, 66, 67, 68, 69, 70, 71, 72, 73, 74, 75, 76, 137, 138, 139, 140, 141, 142, 143, 144, 145, 146] rfl (by decide +kernel)) (goodIn_sub (fun _ h => List.mem_cons_of_mem _ (List.mem_append_right _ h)) (by decide +kernel))
set_option maxRecDepth 20000 in
theorem ggX3_dump_X1_writeTo : GoodIn wsX3_dump wsX1_writeTo := goodIn_r _ [80, 81, 24, 82, 83, 84, 85, 18, 86, 21, 87, 88, 89, 90, 29, 68, 69, 70, 71, 72, 56, 5, 57, 40, 41, 42, 43, 44, 45, 91, 92, 93, 94, 95, 96, 97, 98, 99, 100, 101, 102, 103, 104, 105, 106, 107, 108, 109, 110, 111, 112, 113, 114, 115, 116, 66, 67, 117, 118, 119, 120, 121, 122, 123, 124, 125, 126, 127, 128, 129, 135, 136, 137, 138, 139, 140, 141, 142, 143, 144, 145, 146] rfl (by decide +kernel)
def ql_q104_cX3_dump : List (Nat × Jvm.ClassFile.Instr × Nat) := [(0, .aload_n 0, 1), (1, .iload_n 1, 1), (2, .invokevirtual 39, 3), (5, .astore_n 2, 1), (6, .aload_n 2, 1), (7, .invokestatic 90, 3), (10, .aload_n 2, 1), (11, .aload_n 0, 1), (12, .getfield 23, 3), (15, .invokevirtual 100, 3), (18, .aload_n 0, 1), (19, .getfield 23, 3), (22, .getfield 103, 3), (25, .ireturn, 1)]
theorem qt_q104_cX3_dump : dcAll cX3_dump ql_q104_cX3_dump = true := by decide +kernel
theorem dX3_dump_0 : decode cX3_dump 0 = .ok (.aload_n 0, 1) := dc_of qt_q104_cX3_dump 0 rfl
theorem dX3_dump_1 : decode cX3_dump 1 = .ok (.iload_n 1, 1) := dc_of qt_q104_cX3_dump 1 rfl
theorem dX3_dump_2 : decode cX3_dump 2 = .ok (.invokevirtual 39, 3) := dc_of qt_q104_cX3_dump 2 rfl
theorem dX3_dump_5 : decode cX3_dump 5 = .ok (.astore_n 2, 1) := dc_of qt_q104_cX3_dump 3 rfl
theorem dX3_dump_6 : decode cX3_dump 6 = .ok (.aload_n 2, 1) := dc_of qt_q104_cX3_dump 4 rfl
theorem dX3_dump_7 : decode cX3_dump 7 = .ok (.invokestatic 90, 3) := dc_of qt_q104_cX3_dump 5 rfl
theorem dX3_dump_10 : decode cX3_dump 10 = .ok (.aload_n 2, 1) := dc_of qt_q104_cX3_dump 6 rfl
theorem dX3_dump_11 : decode cX3_dump 11 = .ok (.aload_n 0, 1) := dc_of qt_q104_cX3_dump 7 rfl
theorem dX3_dump_12 : decode cX3_dump 12 = .ok (.getfield 23, 3) := dc_of qt_q104_cX3_dump 8 rfl
theorem dX3_dump_15 : decode cX3_dump 15 = .ok (.invokevirtual 100, 3) := dc_of qt_q104_cX3_dump 9 rfl
theorem dX3_dump_18 : decode cX3_dump 18 = .ok (.aload_n 0, 1) := dc_of qt_q104_cX3_dump 10 rfl
theorem dX3_dump_19 : decode cX3_dump 19 = .ok (.getfield 23, 3) := dc_of qt_q104_cX3_dump 11 rfl
theorem dX3_dump_22 : decode cX3_dump 22 = .ok (.getfield 103, 3) := dc_of qt_q104_cX3_dump 12 rfl
theorem dX3_dump_25 : decode cX3_dump 25 = .ok (.ireturn, 1) := dc_of qt_q104_cX3_dump 13 rfl
set_option maxRecDepth 20000 in
theorem ggX3_byteAt_X3_needImagePlace : GoodIn wsX3_byteAt wsX3_needImagePlace := goodIn_ca (goodIn_r _ [6, 7, 8, 1, 9, 10, 11, 12, 13, 14, 15] rfl (by decide +kernel)) (goodIn_sub (fun _ h => List.mem_cons_of_mem _ (List.mem_append_right _ h)) (by decide +kernel))
def ql_q105_cX3_byteAt : List (Nat × Jvm.ClassFile.Instr × Nat) := [(0, .aload_n 0, 1), (1, .iload_n 1, 1), (2, .invokevirtual 107, 3), (5, .aload_n 0, 1), (6, .getfield 23, 3), (9, .getfield 110, 3), (12, .iload_n 1, 1), (13, .iaload, 1), (14, .ireturn, 1)]
theorem qt_q105_cX3_byteAt : dcAll cX3_byteAt ql_q105_cX3_byteAt = true := by decide +kernel
theorem dX3_byteAt_0 : decode cX3_byteAt 0 = .ok (.aload_n 0, 1) := dc_of qt_q105_cX3_byteAt 0 rfl
theorem dX3_byteAt_1 : decode cX3_byteAt 1 = .ok (.iload_n 1, 1) := dc_of qt_q105_cX3_byteAt 1 rfl
theorem dX3_byteAt_2 : decode cX3_byteAt 2 = .ok (.invokevirtual 107, 3) := dc_of qt_q105_cX3_byteAt 2 rfl
theorem dX3_byteAt_5 : decode cX3_byteAt 5 = .ok (.aload_n 0, 1) := dc_of qt_q105_cX3_byteAt 3 rfl
theorem dX3_byteAt_6 : decode cX3_byteAt 6 = .ok (.getfield 23, 3) := dc_of qt_q105_cX3_byteAt 4 rfl
theorem dX3_byteAt_9 : decode cX3_byteAt 9 = .ok (.getfield 110, 3) := dc_of qt_q105_cX3_byteAt 5 rfl
theorem dX3_byteAt_12 : decode cX3_byteAt 12 = .ok (.iload_n 1, 1) := dc_of qt_q105_cX3_byteAt 6 rfl
theorem dX3_byteAt_13 : decode cX3_byteAt 13 = .ok (.iaload, 1) := dc_of qt_q105_cX3_byteAt 7 rfl
theorem dX3_byteAt_14 : decode cX3_byteAt 14 = .ok (.ireturn, 1) := dc_of qt_q105_cX3_byteAt 8 rfl
set_option maxRecDepth 20000 in
theorem ggX3_feed_X0_add : GoodIn wsX3_feed wsX0_add := goodIn_r _ [10, 11, 12, 18, 19] rfl (by decide +kernel)
def ql_q106_cX3_feed : List (Nat × Jvm.ClassFile.Instr × Nat) := [(0, .iload_n 1, 1), (1, .ifCond .lt 10, 3), (4, .iload_n 1, 1), (5, .sipush 255, 3), (8, .if_icmp .le 11, 3), (11, .new 47, 3), (14, .dup, 1), (15, .invokespecial 49, 3), (18, .athrow, 1), (19, .aload_n 0, 1), (20, .getfield 27, 3), (23, .getfield 103, 3), (26, .sipush 2000, 3), (29, .if_icmp .lt 11, 3), (32, .new 54, 3), (35, .dup, 1), (36, .invokespecial 56, 3), (39, .athrow, 1), (40, .aload_n 0, 1), (41, .getfield 27, 3), (44, .iload_n 1, 1), (45, .invokevirtual 113, 3), (48, .aload_n 0, 1), (49, .getfield 27, 3)]
theorem qt_q106_cX3_feed : dcAll cX3_feed ql_q106_cX3_feed = true := by decide +kernel
theorem dX3_feed_0 : decode cX3_feed 0 = .ok (.iload_n 1, 1) := dc_of qt_q106_cX3_feed 0 rfl
theorem dX3_feed_1 : decode cX3_feed 1 = .ok (.ifCond .lt 10, 3) := dc_of qt_q106_cX3_feed 1 rfl
theorem dX3_feed_4 : decode cX3_feed 4 = .ok (.iload_n 1, 1) := dc_of qt_q106_cX3_feed 2 rfl
theorem dX3_feed_5 : decode cX3_feed 5 = .ok (.sipush 255, 3) := dc_of qt_q106_cX3_feed 3 rfl
theorem dX3_feed_8 : decode cX3_feed 8 = .ok (.if_icmp .le 11, 3) := dc_of qt_q106_cX3_feed 4 rfl
theorem dX3_feed_11 : decode cX3_feed 11 = .ok (.new 47, 3) := dc_of qt_q106_cX3_feed 5 rfl
theorem dX3_feed_14 : decode cX3_feed 14 = .ok (.dup, 1) := dc_of qt_q106_cX3_feed 6 rfl
theorem dX3_feed_15 : decode cX3_feed 15 = .ok (.invokespecial 49, 3) := dc_of qt_q106_cX3_feed 7 rfl
theorem dX3_feed_18 : decode cX3_feed 18 = .ok (.athrow, 1) := dc_of qt_q106_cX3_feed 8 rfl
theorem dX3_feed_19 : decode cX3_feed 19 = .ok (.aload_n 0, 1) := dc_of qt_q106_cX3_feed 9 rfl
theorem dX3_feed_20 : decode cX3_feed 20 = .ok (.getfield 27, 3) := dc_of qt_q106_cX3_feed 10 rfl
theorem dX3_feed_23 : decode cX3_feed 23 = .ok (.getfield 103, 3) := dc_of qt_q106_cX3_feed 11 rfl
theorem dX3_feed_26 : decode cX3_feed 26 = .ok (.sipush 2000, 3) := dc_of qt_q106_cX3_feed 12 rfl
theorem dX3_feed_29 : decode cX3_feed 29 = .ok (.if_icmp .lt 11, 3) := dc_of qt_q106_cX3_feed 13 rfl
theorem dX3_feed_32 : decode cX3_feed 32 = .ok (.new 54, 3) := dc_of qt_q106_cX3_feed 14 rfl
theorem dX3_feed_35 : decode cX3_feed 35 = .ok (.dup, 1) := dc_of qt_q106_cX3_feed 15 rfl
theorem dX3_feed_36 : decode cX3_feed 36 = .ok (.invokespecial 56, 3) := dc_of qt_q106_cX3_feed 16 rfl
theorem dX3_feed_39 : decode cX3_feed 39 = .ok (.athrow, 1) := dc_of qt_q106_cX3_feed 17 rfl
theorem dX3_feed_40 : decode cX3_feed 40 = .ok (.aload_n 0, 1) := dc_of qt_q106_cX3_feed 18 rfl
theorem dX3_feed_41 : decode cX3_feed 41 = .ok (.getfield 27, 3) := dc_of qt_q106_cX3_feed 19 rfl
theorem dX3_feed_44 : decode cX3_feed 44 = .ok (.iload_n 1, 1) := dc_of qt_q106_cX3_feed 20 rfl
theorem dX3_feed_45 : decode cX3_feed 45 = .ok (.invokevirtual 113, 3) := dc_of qt_q106_cX3_feed 21 rfl
theorem dX3_feed_48 : decode cX3_feed 48 = .ok (.aload_n 0, 1) := dc_of qt_q106_cX3_feed 22 rfl
theorem dX3_feed_49 : decode cX3_feed 49 = .ok (.getfield 27, 3) := dc_of qt_q106_cX3_feed 23 rfl
def ql_q107_cX3_feed : List (Nat × Jvm.ClassFile.Instr × Nat) := [(52, .getfield 103, 3), (55, .ireturn, 1)]
theorem qt_q107_cX3_feed : dcAll cX3_feed ql_q107_cX3_feed = true := by decide +kernel
theorem dX3_feed_52 : decode cX3_feed 52 = .ok (.getfield 103, 3) := dc_of qt_q107_cX3_feed 0 rfl
theorem dX3_feed_55 : decode cX3_feed 55 = .ok (.ireturn, 1) := dc_of qt_q107_cX3_feed 1 rfl
set_option maxRecDepth 20000 in
theorem ggX3_pass_X3_needImagePlace : GoodIn wsX3_pass wsX3_needImagePlace := goodIn_ca (goodIn_r _ [15, 16, 17, 5, 25, 26, 27, 28, 29, 30, 31] rfl (by decide +kernel)) (goodIn_sub (fun _ h => List.mem_cons_of_mem _ (List.mem_append_right _ h)) (by decide +kernel))
set_option maxRecDepth 20000 in
theorem ggX3_pass_X0_add : GoodIn wsX3_pass wsX0_add := goodIn_r _ [22, 23, 24, 30, 31] rfl (by decide +kernel)
def ql_q108_cX3_pass : List (Nat × Jvm.ClassFile.Instr × Nat) := [(0, .aload_n 0, 1), (1, .iload_n 1, 1), (2, .invokevirtual 107, 3), (5, .iload_n 2, 1), (6, .ifCond .ge 11, 3), (9, .new 47, 3), (12, .dup, 1), (13, .invokespecial 49, 3), (16, .athrow, 1), (17, .iload_n 2, 1), (18, .aload_n 0, 1), (19, .getfield 23, 3), (22, .getfield 103, 3), (25, .iload_n 1, 1), (26, .isub, 1), (27, .invokestatic 116, 3), (30, .istore_n 3, 1), (31, .aload_n 0, 1), (32, .getfield 27, 3), (35, .getfield 103, 3), (38, .iload_n 3, 1), (39, .iadd, 1), (40, .sipush 2000, 3), (43, .if_icmp .le 11, 3)]
theorem qt_q108_cX3_pass : dcAll cX3_pass ql_q108_cX3_pass = true := by decide +kernel
theorem dX3_pass_0 : decode cX3_pass 0 = .ok (.aload_n 0, 1) := dc_of qt_q108_cX3_pass 0 rfl
theorem dX3_pass_1 : decode cX3_pass 1 = .ok (.iload_n 1, 1) := dc_of qt_q108_cX3_pass 1 rfl
theorem dX3_pass_2 : decode cX3_pass 2 = .ok (.invokevirtual 107, 3) := dc_of qt_q108_cX3_pass 2 rfl
theorem dX3_pass_5 : decode cX3_pass 5 = .ok (.iload_n 2, 1) := dc_of qt_q108_cX3_pass 3 rfl
theorem dX3_pass_6 : decode cX3_pass 6 = .ok (.ifCond .ge 11, 3) := dc_of qt_q108_cX3_pass 4 rfl
theorem dX3_pass_9 : decode cX3_pass 9 = .ok (.new 47, 3) := dc_of qt_q108_cX3_pass 5 rfl
theorem dX3_pass_12 : decode cX3_pass 12 = .ok (.dup, 1) := dc_of qt_q108_cX3_pass 6 rfl
theorem dX3_pass_13 : decode cX3_pass 13 = .ok (.invokespecial 49, 3) := dc_of qt_q108_cX3_pass 7 rfl
theorem dX3_pass_16 : decode cX3_pass 16 = .ok (.athrow, 1) := dc_of qt_q108_cX3_pass 8 rfl
theorem dX3_pass_17 : decode cX3_pass 17 = .ok (.iload_n 2, 1) := dc_of qt_q108_cX3_pass 9 rfl
theorem dX3_pass_18 : decode cX3_pass 18 = .ok (.aload_n 0, 1) := dc_of qt_q108_cX3_pass 10 rfl
theorem dX3_pass_19 : decode cX3_pass 19 = .ok (.getfield 23, 3) := dc_of qt_q108_cX3_pass 11 rfl
theorem dX3_pass_22 : decode cX3_pass 22 = .ok (.getfield 103, 3) := dc_of qt_q108_cX3_pass 12 rfl
theorem dX3_pass_25 : decode cX3_pass 25 = .ok (.iload_n 1, 1) := dc_of qt_q108_cX3_pass 13 rfl
theorem dX3_pass_26 : decode cX3_pass 26 = .ok (.isub, 1) := dc_of qt_q108_cX3_pass 14 rfl
theorem dX3_pass_27 : decode cX3_pass 27 = .ok (.invokestatic 116, 3) := dc_of qt_q108_cX3_pass 15 rfl
theorem dX3_pass_30 : decode cX3_pass 30 = .ok (.istore_n 3, 1) := dc_of qt_q108_cX3_pass 16 rfl
theorem dX3_pass_31 : decode cX3_pass 31 = .ok (.aload_n 0, 1) := dc_of qt_q108_cX3_pass 17 rfl
theorem dX3_pass_32 : decode cX3_pass 32 = .ok (.getfield 27, 3) := dc_of qt_q108_cX3_pass 18 rfl
theorem dX3_pass_35 : decode cX3_pass 35 = .ok (.getfield 103, 3) := dc_of qt_q108_cX3_pass 19 rfl
theorem dX3_pass_38 : decode cX3_pass 38 = .ok (.iload_n 3, 1) := dc_of qt_q108_cX3_pass 20 rfl
theorem dX3_pass_39 : decode cX3_pass 39 = .ok (.iadd, 1) := dc_of qt_q108_cX3_pass 21 rfl
theorem dX3_pass_40 : decode cX3_pass 40 = .ok (.sipush 2000, 3) := dc_of qt_q108_cX3_pass 22 rfl
theorem dX3_pass_43 : decode cX3_pass 43 = .ok (.if_icmp .le 11, 3) := dc_of qt_q108_cX3_pass 23 rfl
def ql_q109_cX3_pass : List (Nat × Jvm.ClassFile.Instr × Nat) := [(46, .new 54, 3), (49, .dup, 1), (50, .invokespecial 56, 3), (53, .athrow, 1), (54, .iload_n 1, 1), (55, .istore 4, 2), (57, .iload 4, 2), (59, .iload_n 1, 1), (60, .iload_n 3, 1), (61, .iadd, 1), (62, .if_icmp .ge 26, 3), (65, .aload_n 0, 1), (66, .getfield 27, 3), (69, .aload_n 0, 1), (70, .getfield 23, 3), (73, .getfield 110, 3), (76, .iload 4, 2), (78, .iaload, 1), (79, .invokevirtual 113, 3), (82, .iinc 4 1, 3), (85, .goto (-28), 3), (88, .iload_n 3, 1), (89, .ireturn, 1)]
theorem qt_q109_cX3_pass : dcAll cX3_pass ql_q109_cX3_pass = true := by decide +kernel
theorem dX3_pass_46 : decode cX3_pass 46 = .ok (.new 54, 3) := dc_of qt_q109_cX3_pass 0 rfl
theorem dX3_pass_49 : decode cX3_pass 49 = .ok (.dup, 1) := dc_of qt_q109_cX3_pass 1 rfl
theorem dX3_pass_50 : decode cX3_pass 50 = .ok (.invokespecial 56, 3) := dc_of qt_q109_cX3_pass 2 rfl
theorem dX3_pass_53 : decode cX3_pass 53 = .ok (.athrow, 1) := dc_of qt_q109_cX3_pass 3 rfl
theorem dX3_pass_54 : decode cX3_pass 54 = .ok (.iload_n 1, 1) := dc_of qt_q109_cX3_pass 4 rfl
theorem dX3_pass_55 : decode cX3_pass 55 = .ok (.istore 4, 2) := dc_of qt_q109_cX3_pass 5 rfl
theorem dX3_pass_57 : decode cX3_pass 57 = .ok (.iload 4, 2) := dc_of qt_q109_cX3_pass 6 rfl
theorem dX3_pass_59 : decode cX3_pass 59 = .ok (.iload_n 1, 1) := dc_of qt_q109_cX3_pass 7 rfl
theorem dX3_pass_60 : decode cX3_pass 60 = .ok (.iload_n 3, 1) := dc_of qt_q109_cX3_pass 8 rfl
theorem dX3_pass_61 : decode cX3_pass 61 = .ok (.iadd, 1) := dc_of qt_q109_cX3_pass 9 rfl
theorem dX3_pass_62 : decode cX3_pass 62 = .ok (.if_icmp .ge 26, 3) := dc_of qt_q109_cX3_pass 10 rfl
theorem dX3_pass_65 : decode cX3_pass 65 = .ok (.aload_n 0, 1) := dc_of qt_q109_cX3_pass 11 rfl
theorem dX3_pass_66 : decode cX3_pass 66 = .ok (.getfield 27, 3) := dc_of qt_q109_cX3_pass 12 rfl
theorem dX3_pass_69 : decode cX3_pass 69 = .ok (.aload_n 0, 1) := dc_of qt_q109_cX3_pass 13 rfl
theorem dX3_pass_70 : decode cX3_pass 70 = .ok (.getfield 23, 3) := dc_of qt_q109_cX3_pass 14 rfl
theorem dX3_pass_73 : decode cX3_pass 73 = .ok (.getfield 110, 3) := dc_of qt_q109_cX3_pass 15 rfl
theorem dX3_pass_76 : decode cX3_pass 76 = .ok (.iload 4, 2) := dc_of qt_q109_cX3_pass 16 rfl
theorem dX3_pass_78 : decode cX3_pass 78 = .ok (.iaload, 1) := dc_of qt_q109_cX3_pass 17 rfl
theorem dX3_pass_79 : decode cX3_pass 79 = .ok (.invokevirtual 113, 3) := dc_of qt_q109_cX3_pass 18 rfl
theorem dX3_pass_82 : decode cX3_pass 82 = .ok (.iinc 4 1, 3) := dc_of qt_q109_cX3_pass 19 rfl
theorem dX3_pass_85 : decode cX3_pass 85 = .ok (.goto (-28), 3) := dc_of qt_q109_cX3_pass 20 rfl
theorem dX3_pass_88 : decode cX3_pass 88 = .ok (.iload_n 3, 1) := dc_of qt_q109_cX3_pass 21 rfl
theorem dX3_pass_89 : decode cX3_pass 89 = .ok (.ireturn, 1) := dc_of qt_q109_cX3_pass 22 rfl
set_option maxRecDepth 20000 in
theorem ggX3_restore_X3_heapOf : GoodIn wsX3_restore wsX3_heapOf := goodIn_ca (goodIn_r _ [9, 10, 11, 4, 161, 162, 163, 164, 165] rfl (by decide +kernel)) (goodIn_sub (fun _ h => List.mem_cons_of_mem _ (List.mem_append_left _ (List.mem_append_right _ h))) (by decide +kernel))
set_option maxRecDepth 20000 in
theorem ggX3_restore_X3_needBase : GoodIn wsX3_restore wsX3_needBase := goodIn_ca (goodIn_r _ [14, 15, 16, 17] rfl (by decide +kernel)) (goodIn_sub (fun _ h => List.mem_cons_of_mem _ (List.mem_append_right _ h)) (by decide +kernel))
set_option maxRecDepth 20000 in
theorem ggX3_restore_X1_empty : GoodIn wsX3_restore wsX1_empty := goodIn_r _ [22, 23, 24, 25, 26, 27, 28, 29, 30, 166, 167, 168, 169, 170, 171, 172, 173, 174, 175] rfl (by decide +kernel)
set_option maxRecDepth 20000 in
theorem ggX3_restore_X2_readInto : GoodIn wsX3_restore wsX2_readInto := goodIn_r _ [35, 36, 37, 38, 39, 40, 41, 42, 43, 34, 44, 45, 46, 47, 48, 49, 50, 51, 52, 53, 54, 55, 56, 57, 58, 59, 60, 61, 62, 63, 64, 65, 66, 67, 68, 69, 70, 71, 72, 73, 74, 75, 76, 77, 78, 79, 80, 81, 82, 83, 84, 85, 86, 87, 88, 89, 90, 91, 92, 93, 8, 94, 95, 96, 97, 98, 99, 100, 21, 101, 26, 102, 103, 104, 105, 23, 106, 107, 108, 109, 110, 111, 112, 113, 114, 115, 116, 117, 118, 119, 120, 121, 122, 123, 124, 125, 126, 127, 128, 129, 130, 131, 132, 24, 133, 134, 135, 136, 137, 138, 139, 27, 28, 29, 30, 140, 141, 142, 143, 144, 145, 146, 147, 148, 149, 150, 151, 152, 153, 154, 155, 156, 157, 158, 25, 159, 160, 178, 179, 180, 181, 182, 166, 167, 168, 169, 170, 171, 172, 173, 174, 175, 176, 177] rfl (by decide +kernel)
def ql_q110_cX3_restore : List (Nat × Jvm.ClassFile.Instr × Nat) := [(0, .aload_n 0, 1), (1, .iload_n 1, 1), (2, .invokevirtual 39, 3), (5, .astore_n 3, 1), (6, .iload_n 2, 1), (7, .invokestatic 86, 3), (10, .aload_n 0, 1), (11, .getfield 16, 3), (14, .invokevirtual 121, 3), (17, .aload_n 0, 1), (18, .getfield 16, 3), (21, .iload_n 2, 1), (22, .putfield 124, 3), (25, .aload_n 0, 1), (26, .getfield 35, 3), (29, .aload_n 0, 1), (30, .getfield 16, 3), (33, .invokevirtual 127, 3), (36, .istore 4, 2), (38, .aload_n 0, 1), (39, .getfield 27, 3), (42, .iconst 0, 1), (43, .putfield 103, 3), (46, .iload 4, 2)]
theorem qt_q110_cX3_restore : dcAll cX3_restore ql_q110_cX3_restore = true := by decide +kernel
theorem dX3_restore_0 : decode cX3_restore 0 = .ok (.aload_n 0, 1) := dc_of qt_q110_cX3_restore 0 rfl
theorem dX3_restore_1 : decode cX3_restore 1 = .ok (.iload_n 1, 1) := dc_of qt_q110_cX3_restore 1 rfl
theorem dX3_restore_2 : decode cX3_restore 2 = .ok (.invokevirtual 39, 3) := dc_of qt_q110_cX3_restore 2 rfl
theorem dX3_restore_5 : decode cX3_restore 5 = .ok (.astore_n 3, 1) := dc_of qt_q110_cX3_restore 3 rfl
theorem dX3_restore_6 : decode cX3_restore 6 = .ok (.iload_n 2, 1) := dc_of qt_q110_cX3_restore 4 rfl
theorem dX3_restore_7 : decode cX3_restore 7 = .ok (.invokestatic 86, 3) := dc_of qt_q110_cX3_restore 5 rfl
theorem dX3_restore_10 : decode cX3_restore 10 = .ok (.aload_n 0, 1) := dc_of qt_q110_cX3_restore 6 rfl
theorem dX3_restore_11 : decode cX3_restore 11 = .ok (.getfield 16, 3) := dc_of qt_q110_cX3_restore 7 rfl
theorem dX3_restore_14 : decode cX3_restore 14 = .ok (.invokevirtual 121, 3) := dc_of qt_q110_cX3_restore 8 rfl
theorem dX3_restore_17 : decode cX3_restore 17 = .ok (.aload_n 0, 1) := dc_of qt_q110_cX3_restore 9 rfl
theorem dX3_restore_18 : decode cX3_restore 18 = .ok (.getfield 16, 3) := dc_of qt_q110_cX3_restore 10 rfl
theorem dX3_restore_21 : decode cX3_restore 21 = .ok (.iload_n 2, 1) := dc_of qt_q110_cX3_restore 11 rfl
theorem dX3_restore_22 : decode cX3_restore 22 = .ok (.putfield 124, 3) := dc_of qt_q110_cX3_restore 12 rfl
theorem dX3_restore_25 : decode cX3_restore 25 = .ok (.aload_n 0, 1) := dc_of qt_q110_cX3_restore 13 rfl
theorem dX3_restore_26 : decode cX3_restore 26 = .ok (.getfield 35, 3) := dc_of qt_q110_cX3_restore 14 rfl
theorem dX3_restore_29 : decode cX3_restore 29 = .ok (.aload_n 0, 1) := dc_of qt_q110_cX3_restore 15 rfl
theorem dX3_restore_30 : decode cX3_restore 30 = .ok (.getfield 16, 3) := dc_of qt_q110_cX3_restore 16 rfl
theorem dX3_restore_33 : decode cX3_restore 33 = .ok (.invokevirtual 127, 3) := dc_of qt_q110_cX3_restore 17 rfl
theorem dX3_restore_36 : decode cX3_restore 36 = .ok (.istore 4, 2) := dc_of qt_q110_cX3_restore 18 rfl
theorem dX3_restore_38 : decode cX3_restore 38 = .ok (.aload_n 0, 1) := dc_of qt_q110_cX3_restore 19 rfl
theorem dX3_restore_39 : decode cX3_restore 39 = .ok (.getfield 27, 3) := dc_of qt_q110_cX3_restore 20 rfl
theorem dX3_restore_42 : decode cX3_restore 42 = .ok (.iconst 0, 1) := dc_of qt_q110_cX3_restore 21 rfl
theorem dX3_restore_43 : decode cX3_restore 43 = .ok (.putfield 103, 3) := dc_of qt_q110_cX3_restore 22 rfl
theorem dX3_restore_46 : decode cX3_restore 46 = .ok (.iload 4, 2) := dc_of qt_q110_cX3_restore 23 rfl
def ql_q111_cX3_restore : List (Nat × Jvm.ClassFile.Instr × Nat) := [(48, .ifCond .lt 18, 3), (51, .aload_n 0, 1), (52, .getfield 11, 3), (55, .iload_n 1, 1), (56, .aload_n 0, 1), (57, .getfield 16, 3), (60, .aastore, 1), (61, .aload_n 0, 1), (62, .aload_n 3, 1), (63, .putfield 16, 3), (66, .iload 4, 2), (68, .ireturn, 1)]
theorem qt_q111_cX3_restore : dcAll cX3_restore ql_q111_cX3_restore = true := by decide +kernel
theorem dX3_restore_48 : decode cX3_restore 48 = .ok (.ifCond .lt 18, 3) := dc_of qt_q111_cX3_restore 0 rfl
theorem dX3_restore_51 : decode cX3_restore 51 = .ok (.aload_n 0, 1) := dc_of qt_q111_cX3_restore 1 rfl
theorem dX3_restore_52 : decode cX3_restore 52 = .ok (.getfield 11, 3) := dc_of qt_q111_cX3_restore 2 rfl
theorem dX3_restore_55 : decode cX3_restore 55 = .ok (.iload_n 1, 1) := dc_of qt_q111_cX3_restore 3 rfl
theorem dX3_restore_56 : decode cX3_restore 56 = .ok (.aload_n 0, 1) := dc_of qt_q111_cX3_restore 4 rfl
theorem dX3_restore_57 : decode cX3_restore 57 = .ok (.getfield 16, 3) := dc_of qt_q111_cX3_restore 5 rfl
theorem dX3_restore_60 : decode cX3_restore 60 = .ok (.aastore, 1) := dc_of qt_q111_cX3_restore 6 rfl
theorem dX3_restore_61 : decode cX3_restore 61 = .ok (.aload_n 0, 1) := dc_of qt_q111_cX3_restore 7 rfl
theorem dX3_restore_62 : decode cX3_restore 62 = .ok (.aload_n 3, 1) := dc_of qt_q111_cX3_restore 8 rfl
theorem dX3_restore_63 : decode cX3_restore 63 = .ok (.putfield 16, 3) := dc_of qt_q111_cX3_restore 9 rfl
theorem dX3_restore_66 : decode cX3_restore 66 = .ok (.iload 4, 2) := dc_of qt_q111_cX3_restore 10 rfl
theorem dX3_restore_68 : decode cX3_restore 68 = .ok (.ireturn, 1) := dc_of qt_q111_cX3_restore 11 rfl
set_option maxRecDepth 20000 in
theorem ggX3_same_X3_needValid : GoodIn wsX3_same wsX3_needValid := goodIn_ca (goodIn_r _ [5, 6, 7, 8, 9, 10, 11, 12, 13, 14, 15, 16, 17, 18, 19, 20, 21, 22, 23, 24, 25, 26, 27, 28, 29, 30, 31, 4, 32, 33, 34, 35, 36, 37, 38, 39, 40, 41, 42, 43, 44, 45, 46, 47, 48, 49, 50, 51, 52, 53, 54, 55, 56, 57, 58, 59, 60, 61, 62, 63, 64, 65, 66, 67, 68, 69, 101, 102, 103, 104, 105, 106, 107, 108, 109, 110] rfl (by decide +kernel)) (goodIn_sub (fun _ h => List.mem_cons_of_mem _ (List.mem_append_right _ h)) (by decide +kernel))
set_option maxRecDepth 20000 in
theorem ggX3_same_X1_hasSameAs : GoodIn wsX3_same wsX1_hasSameAs := goodIn_r _ [73, 74, 17, 75, 76, 77, 78, 11, 79, 14, 80, 81, 82, 83, 22, 61, 62, 63, 64, 65, 49, 4, 50, 33, 34, 35, 36, 37, 38, 84, 85, 86, 87, 88, 89, 90, 91, 59, 60, 92, 93, 94, 95, 101, 102, 103, 104, 105, 106, 107, 108, 109, 110] rfl (by decide +kernel)
def ql_q112_cX3_same : List (Nat × Jvm.ClassFile.Instr × Nat) := [(0, .aload_n 0, 1), (1, .getfield 11, 3), (4, .iconst 0, 1), (5, .aaload, 1), (6, .invokestatic 90, 3), (9, .aload_n 0, 1), (10, .getfield 11, 3), (13, .iconst 1, 1), (14, .aaload, 1), (15, .invokestatic 90, 3), (18, .aload_n 0, 1), (19, .getfield 11, 3), (22, .iconst 0, 1), (23, .aaload, 1), (24, .aload_n 0, 1), (25, .getfield 11, 3), (28, .iconst 1, 1), (29, .aaload, 1), (30, .invokevirtual 131, 3), (33, .ireturn, 1)]
theorem qt_q112_cX3_same : dcAll cX3_same ql_q112_cX3_same = true := by decide +kernel
theorem dX3_same_0 : decode cX3_same 0 = .ok (.aload_n 0, 1) := dc_of qt_q112_cX3_same 0 rfl
theorem dX3_same_1 : decode cX3_same 1 = .ok (.getfield 11, 3) := dc_of qt_q112_cX3_same 1 rfl
theorem dX3_same_4 : decode cX3_same 4 = .ok (.iconst 0, 1) := dc_of qt_q112_cX3_same 2 rfl
theorem dX3_same_5 : decode cX3_same 5 = .ok (.aaload, 1) := dc_of qt_q112_cX3_same 3 rfl
theorem dX3_same_6 : decode cX3_same 6 = .ok (.invokestatic 90, 3) := dc_of qt_q112_cX3_same 4 rfl
theorem dX3_same_9 : decode cX3_same 9 = .ok (.aload_n 0, 1) := dc_of qt_q112_cX3_same 5 rfl
theorem dX3_same_10 : decode cX3_same 10 = .ok (.getfield 11, 3) := dc_of qt_q112_cX3_same 6 rfl
theorem dX3_same_13 : decode cX3_same 13 = .ok (.iconst 1, 1) := dc_of qt_q112_cX3_same 7 rfl
theorem dX3_same_14 : decode cX3_same 14 = .ok (.aaload, 1) := dc_of qt_q112_cX3_same 8 rfl
theorem dX3_same_15 : decode cX3_same 15 = .ok (.invokestatic 90, 3) := dc_of qt_q112_cX3_same 9 rfl
theorem dX3_same_18 : decode cX3_same 18 = .ok (.aload_n 0, 1) := dc_of qt_q112_cX3_same 10 rfl
theorem dX3_same_19 : decode cX3_same 19 = .ok (.getfield 11, 3) := dc_of qt_q112_cX3_same 11 rfl
theorem dX3_same_22 : decode cX3_same 22 = .ok (.iconst 0, 1) := dc_of qt_q112_cX3_same 12 rfl
theorem dX3_same_23 : decode cX3_same 23 = .ok (.aaload, 1) := dc_of qt_q112_cX3_same 13 rfl
theorem dX3_same_24 : decode cX3_same 24 = .ok (.aload_n 0, 1) := dc_of qt_q112_cX3_same 14 rfl
theorem dX3_same_25 : decode cX3_same 25 = .ok (.getfield 11, 3) := dc_of qt_q112_cX3_same 15 rfl
theorem dX3_same_28 : decode cX3_same 28 = .ok (.iconst 1, 1) := dc_of qt_q112_cX3_same 16 rfl
theorem dX3_same_29 : decode cX3_same 29 = .ok (.aaload, 1) := dc_of qt_q112_cX3_same 17 rfl
theorem dX3_same_30 : decode cX3_same 30 = .ok (.invokevirtual 131, 3) := dc_of qt_q112_cX3_same 18 rfl
theorem dX3_same_33 : decode cX3_same 33 = .ok (.ireturn, 1) := dc_of qt_q112_cX3_same 19 rfl
set_option maxRecDepth 20000 in
theorem ggX3_told_X3_heapOf : GoodIn wsX3_told wsX3_heapOf := goodIn_ca (goodIn_r _ [7, 8, 9, 10, 99, 100, 101, 102, 103] rfl (by decide +kernel)) (goodIn_sub (fun _ h => List.mem_cons_of_mem _ (List.mem_append_left _ (List.mem_append_right _ h))) (by decide +kernel))
set_option maxRecDepth 20000 in
theorem ggX3_told_X3_needValid : GoodIn wsX3_told wsX3_needValid := goodIn_ca (goodIn_r _ [13, 14, 15, 16, 17, 18, 19, 20, 21, 22, 23, 24, 25, 26, 27, 28, 29, 30, 31, 32, 33, 34, 35, 36, 37, 38, 39, 6, 40, 41, 42, 43, 44, 45, 46, 47, 48, 49, 50, 51, 52, 53, 54, 55, 56, 57, 58, 59, 60, 61, 62, 63, 64, 65, 66, 67, 68, 69, 70, 71, 72, 73, 74, 75, 76, 77, 89, 90, 91, 92, 93, 94, 95, 96, 97, 98] rfl (by decide +kernel)) (goodIn_sub (fun _ h => List.mem_cons_of_mem _ (List.mem_append_right _ h)) (by decide +kernel))
set_option maxRecDepth 20000 in
theorem ggX3_told_X1_findOrder : GoodIn wsX3_told wsX1_findOrder := goodIn_r _ [81, 82, 25, 22, 83, 84, 85, 86, 19, 87, 30, 69, 70, 71, 72, 73, 57, 6, 58, 41, 42, 43, 44, 45, 46, 89, 90, 91, 92, 93, 94, 95, 96, 97, 98] rfl (by decide +kernel)
set_option maxRecDepth 20000 in
theorem ggX3_told_X1_listObjects : GoodIn wsX3_told wsX1_listObjects := goodIn_r _ [29, 30, 23, 24, 22, 31, 32, 33, 34, 35, 36, 37, 19, 38, 21, 39, 6, 40, 41, 42, 43, 44, 45, 46, 47, 48, 49, 50, 51, 52, 89, 90, 91, 92, 93, 94, 95, 96, 97, 98] rfl (by decide +kernel)
def ql_q113_cX3_told : List (Nat × Jvm.ClassFile.Instr × Nat) := [(0, .aload_n 0, 1), (1, .iload_n 1, 1), (2, .invokevirtual 39, 3), (5, .astore_n 3, 1), (6, .iload_n 2, 1), (7, .tableswitch 62 0 3 #[29, 34, 39, 52], 29), (36, .aload_n 3, 1), (37, .getfield 124, 3), (40, .ireturn, 1), (41, .aload_n 3, 1), (42, .getfield 135, 3), (45, .ireturn, 1), (46, .aload_n 3, 1), (47, .invokestatic 90, 3), (50, .aload_n 3, 1), (51, .invokevirtual 138, 3), (54, .aload_n 3, 1), (55, .getfield 141, 3), (58, .ireturn, 1), (59, .aload_n 3, 1), (60, .invokevirtual 144, 3), (63, .pop, 1), (64, .aload_n 3, 1), (65, .getfield 147, 3)]
theorem qt_q113_cX3_told : dcAll cX3_told ql_q113_cX3_told = true := by decide +kernel
theorem dX3_told_0 : decode cX3_told 0 = .ok (.aload_n 0, 1) := dc_of qt_q113_cX3_told 0 rfl
theorem dX3_told_1 : decode cX3_told 1 = .ok (.iload_n 1, 1) := dc_of qt_q113_cX3_told 1 rfl
theorem dX3_told_2 : decode cX3_told 2 = .ok (.invokevirtual 39, 3) := dc_of qt_q113_cX3_told 2 rfl
theorem dX3_told_5 : decode cX3_told 5 = .ok (.astore_n 3, 1) := dc_of qt_q113_cX3_told 3 rfl
theorem dX3_told_6 : decode cX3_told 6 = .ok (.iload_n 2, 1) := dc_of qt_q113_cX3_told 4 rfl
theorem dX3_told_7 : decode cX3_told 7 = .ok (.tableswitch 62 0 3 #[29, 34, 39, 52], 29) := dc_of qt_q113_cX3_told 5 rfl
theorem dX3_told_36 : decode cX3_told 36 = .ok (.aload_n 3, 1) := dc_of qt_q113_cX3_told 6 rfl
theorem dX3_told_37 : decode cX3_told 37 = .ok (.getfield 124, 3) := dc_of qt_q113_cX3_told 7 rfl
theorem dX3_told_40 : decode cX3_told 40 = .ok (.ireturn, 1) := dc_of qt_q113_cX3_told 8 rfl
theorem dX3_told_41 : decode cX3_told 41 = .ok (.aload_n 3, 1) := dc_of qt_q113_cX3_told 9 rfl
theorem dX3_told_42 : decode cX3_told 42 = .ok (.getfield 135, 3) := dc_of qt_q113_cX3_told 10 rfl
theorem dX3_told_45 : decode cX3_told 45 = .ok (.ireturn, 1) := dc_of qt_q113_cX3_told 11 rfl
theorem dX3_told_46 : decode cX3_told 46 = .ok (.aload_n 3, 1) := dc_of qt_q113_cX3_told 12 rfl
theorem dX3_told_47 : decode cX3_told 47 = .ok (.invokestatic 90, 3) := dc_of qt_q113_cX3_told 13 rfl
theorem dX3_told_50 : decode cX3_told 50 = .ok (.aload_n 3, 1) := dc_of qt_q113_cX3_told 14 rfl
theorem dX3_told_51 : decode cX3_told 51 = .ok (.invokevirtual 138, 3) := dc_of qt_q113_cX3_told 15 rfl
theorem dX3_told_54 : decode cX3_told 54 = .ok (.aload_n 3, 1) := dc_of qt_q113_cX3_told 16 rfl
theorem dX3_told_55 : decode cX3_told 55 = .ok (.getfield 141, 3) := dc_of qt_q113_cX3_told 17 rfl
theorem dX3_told_58 : decode cX3_told 58 = .ok (.ireturn, 1) := dc_of qt_q113_cX3_told 18 rfl
theorem dX3_told_59 : decode cX3_told 59 = .ok (.aload_n 3, 1) := dc_of qt_q113_cX3_told 19 rfl
theorem dX3_told_60 : decode cX3_told 60 = .ok (.invokevirtual 144, 3) := dc_of qt_q113_cX3_told 20 rfl
theorem dX3_told_63 : decode cX3_told 63 = .ok (.pop, 1) := dc_of qt_q113_cX3_told 21 rfl
theorem dX3_told_64 : decode cX3_told 64 = .ok (.aload_n 3, 1) := dc_of qt_q113_cX3_told 22 rfl
theorem dX3_told_65 : decode cX3_told 65 = .ok (.getfield 147, 3) := dc_of qt_q113_cX3_told 23 rfl
def ql_q114_cX3_told : List (Nat × Jvm.ClassFile.Instr × Nat) := [(68, .ireturn, 1), (69, .new 47, 3), (72, .dup, 1), (73, .invokespecial 49, 3), (76, .athrow, 1)]
theorem qt_q114_cX3_told : dcAll cX3_told ql_q114_cX3_told = true := by decide +kernel
theorem dX3_told_68 : decode cX3_told 68 = .ok (.ireturn, 1) := dc_of qt_q114_cX3_told 0 rfl
theorem dX3_told_69 : decode cX3_told 69 = .ok (.new 47, 3) := dc_of qt_q114_cX3_told 1 rfl
theorem dX3_told_72 : decode cX3_told 72 = .ok (.dup, 1) := dc_of qt_q114_cX3_told 2 rfl
theorem dX3_told_73 : decode cX3_told 73 = .ok (.invokespecial 49, 3) := dc_of qt_q114_cX3_told 3 rfl
theorem dX3_told_76 : decode cX3_told 76 = .ok (.athrow, 1) := dc_of qt_q114_cX3_told 4 rfl
set_option maxRecDepth 20000 in
theorem ggX3_clear_X1_empty : GoodIn wsX3_clear wsX1_empty := goodIn_r _ [8, 9, 10, 11, 12, 13, 14, 15, 16, 24, 25, 26, 27, 28, 29, 30, 31, 32, 33] rfl (by decide +kernel)
def ql_q115_cX3_clear : List (Nat × Jvm.ClassFile.Instr × Nat) := [(0, .iconst 0, 1), (1, .istore_n 1, 1), (2, .iload_n 1, 1), (3, .iconst 2, 1), (4, .if_icmp .ge 18, 3), (7, .aload_n 0, 1), (8, .getfield 11, 3), (11, .iload_n 1, 1), (12, .aaload, 1), (13, .invokevirtual 121, 3), (16, .iinc 1 1, 3), (19, .goto (-17), 3), (22, .aload_n 0, 1), (23, .getfield 23, 3), (26, .iconst 0, 1), (27, .putfield 103, 3), (30, .aload_n 0, 1), (31, .getfield 27, 3), (34, .iconst 0, 1), (35, .putfield 103, 3), (38, .return_, 1)]
theorem qt_q115_cX3_clear : dcAll cX3_clear ql_q115_cX3_clear = true := by decide +kernel
theorem dX3_clear_0 : decode cX3_clear 0 = .ok (.iconst 0, 1) := dc_of qt_q115_cX3_clear 0 rfl
theorem dX3_clear_1 : decode cX3_clear 1 = .ok (.istore_n 1, 1) := dc_of qt_q115_cX3_clear 1 rfl
theorem dX3_clear_2 : decode cX3_clear 2 = .ok (.iload_n 1, 1) := dc_of qt_q115_cX3_clear 2 rfl
theorem dX3_clear_3 : decode cX3_clear 3 = .ok (.iconst 2, 1) := dc_of qt_q115_cX3_clear 3 rfl
theorem dX3_clear_4 : decode cX3_clear 4 = .ok (.if_icmp .ge 18, 3) := dc_of qt_q115_cX3_clear 4 rfl
theorem dX3_clear_7 : decode cX3_clear 7 = .ok (.aload_n 0, 1) := dc_of qt_q115_cX3_clear 5 rfl
theorem dX3_clear_8 : decode cX3_clear 8 = .ok (.getfield 11, 3) := dc_of qt_q115_cX3_clear 6 rfl
theorem dX3_clear_11 : decode cX3_clear 11 = .ok (.iload_n 1, 1) := dc_of qt_q115_cX3_clear 7 rfl
theorem dX3_clear_12 : decode cX3_clear 12 = .ok (.aaload, 1) := dc_of qt_q115_cX3_clear 8 rfl
theorem dX3_clear_13 : decode cX3_clear 13 = .ok (.invokevirtual 121, 3) := dc_of qt_q115_cX3_clear 9 rfl
theorem dX3_clear_16 : decode cX3_clear 16 = .ok (.iinc 1 1, 3) := dc_of qt_q115_cX3_clear 10 rfl
theorem dX3_clear_19 : decode cX3_clear 19 = .ok (.goto (-17), 3) := dc_of qt_q115_cX3_clear 11 rfl
theorem dX3_clear_22 : decode cX3_clear 22 = .ok (.aload_n 0, 1) := dc_of qt_q115_cX3_clear 12 rfl
theorem dX3_clear_23 : decode cX3_clear 23 = .ok (.getfield 23, 3) := dc_of qt_q115_cX3_clear 13 rfl
theorem dX3_clear_26 : decode cX3_clear 26 = .ok (.iconst 0, 1) := dc_of qt_q115_cX3_clear 14 rfl
theorem dX3_clear_27 : decode cX3_clear 27 = .ok (.putfield 103, 3) := dc_of qt_q115_cX3_clear 15 rfl
theorem dX3_clear_30 : decode cX3_clear 30 = .ok (.aload_n 0, 1) := dc_of qt_q115_cX3_clear 16 rfl
