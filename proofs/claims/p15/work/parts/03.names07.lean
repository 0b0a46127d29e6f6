theorem dX1_resolveAll_11 : decode cX1_resolveAll 11 = .ok (.aload_n 1, 1) := dc_of qt_q58_cX1_resolveAll 7 rfl
theorem dX1_resolveAll_12 : decode cX1_resolveAll 12 = .ok (.iload 4, 2) := dc_of qt_q58_cX1_resolveAll 8 rfl
theorem dX1_resolveAll_14 : decode cX1_resolveAll 14 = .ok (.iaload, 1) := dc_of qt_q58_cX1_resolveAll 9 rfl
theorem dX1_resolveAll_15 : decode cX1_resolveAll 15 = .ok (.istore 5, 2) := dc_of qt_q58_cX1_resolveAll 10 rfl
theorem dX1_resolveAll_17 : decode cX1_resolveAll 17 = .ok (.iload 5, 2) := dc_of qt_q58_cX1_resolveAll 11 rfl
theorem dX1_resolveAll_19 : decode cX1_resolveAll 19 = .ok (.ifCond .eq 30, 3) := dc_of qt_q58_cX1_resolveAll 12 rfl
theorem dX1_resolveAll_22 : decode cX1_resolveAll 22 = .ok (.iload 5, 2) := dc_of qt_q58_cX1_resolveAll 13 rfl
theorem dX1_resolveAll_24 : decode cX1_resolveAll 24 = .ok (.invokestatic 80, 3) := dc_of qt_q58_cX1_resolveAll 14 rfl
theorem dX1_resolveAll_27 : decode cX1_resolveAll 27 = .ok (.ifCond .ne 22, 3) := dc_of qt_q58_cX1_resolveAll 15 rfl
theorem dX1_resolveAll_30 : decode cX1_resolveAll 30 = .ok (.aload_n 1, 1) := dc_of qt_q58_cX1_resolveAll 16 rfl
theorem dX1_resolveAll_31 : decode cX1_resolveAll 31 = .ok (.iload 4, 2) := dc_of qt_q58_cX1_resolveAll 17 rfl
theorem dX1_resolveAll_33 : decode cX1_resolveAll 33 = .ok (.aload_n 0, 1) := dc_of qt_q58_cX1_resolveAll 18 rfl
theorem dX1_resolveAll_34 : decode cX1_resolveAll 34 = .ok (.aload_n 0, 1) := dc_of qt_q58_cX1_resolveAll 19 rfl
theorem dX1_resolveAll_35 : decode cX1_resolveAll 35 = .ok (.getfield 22, 3) := dc_of qt_q58_cX1_resolveAll 20 rfl
theorem dX1_resolveAll_38 : decode cX1_resolveAll 38 = .ok (.iload 5, 2) := dc_of qt_q58_cX1_resolveAll 21 rfl
theorem dX1_resolveAll_40 : decode cX1_resolveAll 40 = .ok (.iconst 2, 1) := dc_of qt_q58_cX1_resolveAll 22 rfl
theorem dX1_resolveAll_41 : decode cX1_resolveAll 41 = .ok (.idiv, 1) := dc_of qt_q58_cX1_resolveAll 23 rfl
def ql_q59_cX1_resolveAll : List (Nat × Jvm.ClassFile.Instr × Nat) := [(42, .iconst 1, 1), (43, .isub, 1), (44, .iaload, 1), (45, .invokevirtual 158, 3), (48, .iastore, 1), (49, .iinc 4 1, 3), (52, .goto (-49), 3), (55, .return_, 1)]
theorem qt_q59_cX1_resolveAll : dcAll cX1_resolveAll ql_q59_cX1_resolveAll = true := by decide +kernel
theorem dX1_resolveAll_42 : decode cX1_resolveAll 42 = .ok (.iconst 1, 1) := dc_of qt_q59_cX1_resolveAll 0 rfl
theorem dX1_resolveAll_43 : decode cX1_resolveAll 43 = .ok (.isub, 1) := dc_of qt_q59_cX1_resolveAll 1 rfl
theorem dX1_resolveAll_44 : decode cX1_resolveAll 44 = .ok (.iaload, 1) := dc_of qt_q59_cX1_resolveAll 2 rfl
theorem dX1_resolveAll_45 : decode cX1_resolveAll 45 = .ok (.invokevirtual 158, 3) := dc_of qt_q59_cX1_resolveAll 3 rfl
theorem dX1_resolveAll_48 : decode cX1_resolveAll 48 = .ok (.iastore, 1) := dc_of qt_q59_cX1_resolveAll 4 rfl
theorem dX1_resolveAll_49 : decode cX1_resolveAll 49 = .ok (.iinc 4 1, 3) := dc_of qt_q59_cX1_resolveAll 5 rfl
theorem dX1_resolveAll_52 : decode cX1_resolveAll 52 = .ok (.goto (-49), 3) := dc_of qt_q59_cX1_resolveAll 6 rfl
theorem dX1_resolveAll_55 : decode cX1_resolveAll 55 = .ok (.return_, 1) := dc_of qt_q59_cX1_resolveAll 7 rfl
def ql_q60_cX2_init : List (Nat × Jvm.ClassFile.Instr × Nat) := [(0, .aload_n 0, 1), (1, .invokespecial 3, 3), (4, .aload_n 0, 1), (5, .aload_n 1, 1), (6, .putfield 9, 3), (9, .return_, 1)]
theorem qt_q60_cX2_init : dcAll cX2_init ql_q60_cX2_init = true := by decide +kernel
theorem dX2_init_0 : decode cX2_init 0 = .ok (.aload_n 0, 1) := dc_of qt_q60_cX2_init 0 rfl
theorem dX2_init_1 : decode cX2_init 1 = .ok (.invokespecial 3, 3) := dc_of qt_q60_cX2_init 1 rfl
theorem dX2_init_4 : decode cX2_init 4 = .ok (.aload_n 0, 1) := dc_of qt_q60_cX2_init 2 rfl
theorem dX2_init_5 : decode cX2_init 5 = .ok (.aload_n 1, 1) := dc_of qt_q60_cX2_init 3 rfl
theorem dX2_init_6 : decode cX2_init 6 = .ok (.putfield 9, 3) := dc_of qt_q60_cX2_init 4 rfl
theorem dX2_init_9 : decode cX2_init 9 = .ok (.return_, 1) := dc_of qt_q60_cX2_init 5 rfl
set_option maxRecDepth 20000 in
theorem ggX2_readInto_X2_readSign : GoodIn wsX2_readInto wsX2_readSign := goodIn_r _ [10, 11, 12, 13, 9, 14, 1, 15, 16, 17, 18, 5, 19, 20, 21, 22, 2, 137, 138, 139, 140, 141, 152, 153] rfl (by decide +kernel)
set_option maxRecDepth 20000 in
theorem ggX2_readInto_X2_readObjectCount : GoodIn wsX2_readInto wsX2_readObjectCount := goodIn_r _ [26, 1, 27, 28, 29, 30, 31, 4, 32, 33, 34, 9, 35, 36, 15, 16, 17, 18, 5, 19, 20, 21, 22, 2, 137, 138, 139, 140, 141, 152, 153] rfl (by decide +kernel)
set_option maxRecDepth 20000 in
theorem ggX2_readInto_X2_goesOn : GoodIn wsX2_readInto wsX2_goesOn := goodIn_r _ [40, 2, 137, 138, 139, 140, 141] rfl (by decide +kernel)
set_option maxRecDepth 20000 in
theorem ggX2_readInto_X2_nextValue : GoodIn wsX2_readInto wsX2_nextValue := goodIn_r _ [44, 1, 45, 32, 33, 34, 9, 35, 36, 15, 16, 17, 18, 5, 19, 20, 21, 22, 2, 46, 47, 48, 49, 50, 3, 4, 37, 38, 39, 40, 51, 52, 53, 54, 137, 138, 139, 140, 141, 152, 153] rfl (by decide +kernel)
set_option maxRecDepth 20000 in
theorem ggX2_readInto_X2_readHead : GoodIn wsX2_readInto wsX2_readHead := goodIn_r _ [58, 1, 54, 3, 32, 33, 34, 9, 35, 36, 15, 16, 17, 18, 5, 19, 20, 21, 22, 2, 59, 60, 61, 62, 63, 64, 37, 38, 39, 40, 65, 66, 67, 68, 69, 70, 71, 72, 73, 74, 75, 137, 138, 139, 140, 141, 152, 153, 142, 143, 144, 145, 146, 147, 148, 149, 150, 151] rfl (by decide +kernel)
set_option maxRecDepth 20000 in
theorem ggX2_readInto_X2_readSlots : GoodIn wsX2_readInto wsX2_readSlots := goodIn_r _ [79, 80, 60, 81, 82, 83, 37, 38, 39, 9, 40, 2, 84, 85, 86, 87, 15, 16, 17, 18, 1, 5, 19, 20, 21, 22, 41, 42, 43, 44, 45, 32, 33, 34, 35, 36, 46, 47, 48, 49, 50, 3, 4, 51, 52, 53, 54, 142, 143, 144, 145, 146, 147, 148, 149, 150, 151, 137, 138, 139, 140, 141, 152, 153] rfl (by decide +kernel)
set_option maxRecDepth 20000 in
theorem ggX2_readInto_X2_readSum : GoodIn wsX2_readInto wsX2_readSum := goodIn_r _ [91, 1, 5, 92, 93, 94, 95, 96, 97, 98, 15, 16, 17, 9, 18, 19, 20, 21, 22, 2, 137, 138, 139, 140, 141, 152, 153] rfl (by decide +kernel)
set_option maxRecDepth 20000 in
theorem ggX2_readInto_X2_endAt : GoodIn wsX2_readInto wsX2_endAt := goodIn_r _ [22, 2, 137, 138, 139, 140, 141] rfl (by decide +kernel)
set_option maxRecDepth 20000 in
theorem ggX2_readInto_X1_resolveReferences : GoodIn wsX2_readInto wsX1_resolveReferences := goodIn_r _ [102, 103, 104, 75, 105, 106, 107, 108, 68, 109, 110, 111, 112, 113, 114, 115, 116, 117, 118, 70, 119, 60, 120, 121, 80, 81, 122, 82, 83, 123, 59, 61, 62, 63, 64, 124, 125, 126, 127, 128, 129, 130, 131, 132, 133, 134, 135, 136, 142, 143, 144, 145, 146, 147, 148, 149, 150, 151] rfl (by decide +kernel)
def ql_q61_cX2_readInto : List (Nat × Jvm.ClassFile.Instr × Nat) := [(0, .aload_n 0, 1), (1, .iconst 0, 1), (2, .putfield 15, 3), (5, .aload_n 0, 1), (6, .iconst (-1), 1), (7, .putfield 19, 3), (10, .aload_n 0, 1), (11, .iconst 0, 1), (12, .putfield 22, 3), (15, .aload_n 0, 1), (16, .invokevirtual 25, 3), (19, .aload_n 0, 1), (20, .invokevirtual 28, 3), (23, .iconst 0, 1), (24, .istore_n 2, 1), (25, .iload_n 2, 1), (26, .iconst 4, 1), (27, .if_icmp .ge 28, 3), (30, .aload_n 0, 1), (31, .invokevirtual 31, 3), (34, .ifCond .eq 21, 3), (37, .aload_n 1, 1), (38, .getfield 35, 3), (41, .iload_n 2, 1)]
theorem qt_q61_cX2_readInto : dcAll cX2_readInto ql_q61_cX2_readInto = true := by decide +kernel
theorem dX2_readInto_0 : decode cX2_readInto 0 = .ok (.aload_n 0, 1) := dc_of qt_q61_cX2_readInto 0 rfl
theorem dX2_readInto_1 : decode cX2_readInto 1 = .ok (.iconst 0, 1) := dc_of qt_q61_cX2_readInto 1 rfl
theorem dX2_readInto_2 : decode cX2_readInto 2 = .ok (.putfield 15, 3) := dc_of qt_q61_cX2_readInto 2 rfl
theorem dX2_readInto_5 : decode cX2_readInto 5 = .ok (.aload_n 0, 1) := dc_of qt_q61_cX2_readInto 3 rfl
theorem dX2_readInto_6 : decode cX2_readInto 6 = .ok (.iconst (-1), 1) := dc_of qt_q61_cX2_readInto 4 rfl
theorem dX2_readInto_7 : decode cX2_readInto 7 = .ok (.putfield 19, 3) := dc_of qt_q61_cX2_readInto 5 rfl
theorem dX2_readInto_10 : decode cX2_readInto 10 = .ok (.aload_n 0, 1) := dc_of qt_q61_cX2_readInto 6 rfl
theorem dX2_readInto_11 : decode cX2_readInto 11 = .ok (.iconst 0, 1) := dc_of qt_q61_cX2_readInto 7 rfl
theorem dX2_readInto_12 : decode cX2_readInto 12 = .ok (.putfield 22, 3) := dc_of qt_q61_cX2_readInto 8 rfl
theorem dX2_readInto_15 : decode cX2_readInto 15 = .ok (.aload_n 0, 1) := dc_of qt_q61_cX2_readInto 9 rfl
theorem dX2_readInto_16 : decode cX2_readInto 16 = .ok (.invokevirtual 25, 3) := dc_of qt_q61_cX2_readInto 10 rfl
theorem dX2_readInto_19 : decode cX2_readInto 19 = .ok (.aload_n 0, 1) := dc_of qt_q61_cX2_readInto 11 rfl
theorem dX2_readInto_20 : decode cX2_readInto 20 = .ok (.invokevirtual 28, 3) := dc_of qt_q61_cX2_readInto 12 rfl
theorem dX2_readInto_23 : decode cX2_readInto 23 = .ok (.iconst 0, 1) := dc_of qt_q61_cX2_readInto 13 rfl
theorem dX2_readInto_24 : decode cX2_readInto 24 = .ok (.istore_n 2, 1) := dc_of qt_q61_cX2_readInto 14 rfl
theorem dX2_readInto_25 : decode cX2_readInto 25 = .ok (.iload_n 2, 1) := dc_of qt_q61_cX2_readInto 15 rfl
theorem dX2_readInto_26 : decode cX2_readInto 26 = .ok (.iconst 4, 1) := dc_of qt_q61_cX2_readInto 16 rfl
theorem dX2_readInto_27 : decode cX2_readInto 27 = .ok (.if_icmp .ge 28, 3) := dc_of qt_q61_cX2_readInto 17 rfl
theorem dX2_readInto_30 : decode cX2_readInto 30 = .ok (.aload_n 0, 1) := dc_of qt_q61_cX2_readInto 18 rfl
theorem dX2_readInto_31 : decode cX2_readInto 31 = .ok (.invokevirtual 31, 3) := dc_of qt_q61_cX2_readInto 19 rfl
theorem dX2_readInto_34 : decode cX2_readInto 34 = .ok (.ifCond .eq 21, 3) := dc_of qt_q61_cX2_readInto 20 rfl
theorem dX2_readInto_37 : decode cX2_readInto 37 = .ok (.aload_n 1, 1) := dc_of qt_q61_cX2_readInto 21 rfl
theorem dX2_readInto_38 : decode cX2_readInto 38 = .ok (.getfield 35, 3) := dc_of qt_q61_cX2_readInto 22 rfl
theorem dX2_readInto_41 : decode cX2_readInto 41 = .ok (.iload_n 2, 1) := dc_of qt_q61_cX2_readInto 23 rfl
def ql_q62_cX2_readInto : List (Nat × Jvm.ClassFile.Instr × Nat) := [(42, .aload_n 0, 1), (43, .iconst 1, 1), (44, .iconst 1, 1), (45, .invokevirtual 41, 3), (48, .iastore, 1), (49, .iinc 2 1, 3), (52, .goto (-27), 3), (55, .iconst 0, 1), (56, .istore_n 2, 1), (57, .iload_n 2, 1), (58, .aload_n 0, 1), (59, .getfield 45, 3), (62, .if_icmp .ge 33, 3), (65, .aload_n 0, 1), (66, .invokevirtual 31, 3), (69, .ifCond .eq 26, 3), (72, .aload_n 0, 1), (73, .aload_n 1, 1), (74, .iload_n 2, 1), (75, .invokevirtual 48, 3), (78, .istore_n 3, 1), (79, .iload_n 3, 1), (80, .ifCond .lt 9, 3), (83, .aload_n 0, 1)]
theorem qt_q62_cX2_readInto : dcAll cX2_readInto ql_q62_cX2_readInto = true := by decide +kernel
theorem dX2_readInto_42 : decode cX2_readInto 42 = .ok (.aload_n 0, 1) := dc_of qt_q62_cX2_readInto 0 rfl
theorem dX2_readInto_43 : decode cX2_readInto 43 = .ok (.iconst 1, 1) := dc_of qt_q62_cX2_readInto 1 rfl
theorem dX2_readInto_44 : decode cX2_readInto 44 = .ok (.iconst 1, 1) := dc_of qt_q62_cX2_readInto 2 rfl
theorem dX2_readInto_45 : decode cX2_readInto 45 = .ok (.invokevirtual 41, 3) := dc_of qt_q62_cX2_readInto 3 rfl
theorem dX2_readInto_48 : decode cX2_readInto 48 = .ok (.iastore, 1) := dc_of qt_q62_cX2_readInto 4 rfl
theorem dX2_readInto_49 : decode cX2_readInto 49 = .ok (.iinc 2 1, 3) := dc_of qt_q62_cX2_readInto 5 rfl
theorem dX2_readInto_52 : decode cX2_readInto 52 = .ok (.goto (-27), 3) := dc_of qt_q62_cX2_readInto 6 rfl
theorem dX2_readInto_55 : decode cX2_readInto 55 = .ok (.iconst 0, 1) := dc_of qt_q62_cX2_readInto 7 rfl
theorem dX2_readInto_56 : decode cX2_readInto 56 = .ok (.istore_n 2, 1) := dc_of qt_q62_cX2_readInto 8 rfl
theorem dX2_readInto_57 : decode cX2_readInto 57 = .ok (.iload_n 2, 1) := dc_of qt_q62_cX2_readInto 9 rfl
theorem dX2_readInto_58 : decode cX2_readInto 58 = .ok (.aload_n 0, 1) := dc_of qt_q62_cX2_readInto 10 rfl
theorem dX2_readInto_59 : decode cX2_readInto 59 = .ok (.getfield 45, 3) := dc_of qt_q62_cX2_readInto 11 rfl
theorem dX2_readInto_62 : decode cX2_readInto 62 = .ok (.if_icmp .ge 33, 3) := dc_of qt_q62_cX2_readInto 12 rfl
theorem dX2_readInto_65 : decode cX2_readInto 65 = .ok (.aload_n 0, 1) := dc_of qt_q62_cX2_readInto 13 rfl
theorem dX2_readInto_66 : decode cX2_readInto 66 = .ok (.invokevirtual 31, 3) := dc_of qt_q62_cX2_readInto 14 rfl
theorem dX2_readInto_69 : decode cX2_readInto 69 = .ok (.ifCond .eq 26, 3) := dc_of qt_q62_cX2_readInto 15 rfl
theorem dX2_readInto_72 : decode cX2_readInto 72 = .ok (.aload_n 0, 1) := dc_of qt_q62_cX2_readInto 16 rfl
theorem dX2_readInto_73 : decode cX2_readInto 73 = .ok (.aload_n 1, 1) := dc_of qt_q62_cX2_readInto 17 rfl
theorem dX2_readInto_74 : decode cX2_readInto 74 = .ok (.iload_n 2, 1) := dc_of qt_q62_cX2_readInto 18 rfl
theorem dX2_readInto_75 : decode cX2_readInto 75 = .ok (.invokevirtual 48, 3) := dc_of qt_q62_cX2_readInto 19 rfl
theorem dX2_readInto_78 : decode cX2_readInto 78 = .ok (.istore_n 3, 1) := dc_of qt_q62_cX2_readInto 20 rfl
theorem dX2_readInto_79 : decode cX2_readInto 79 = .ok (.iload_n 3, 1) := dc_of qt_q62_cX2_readInto 21 rfl
theorem dX2_readInto_80 : decode cX2_readInto 80 = .ok (.ifCond .lt 9, 3) := dc_of qt_q62_cX2_readInto 22 rfl
theorem dX2_readInto_83 : decode cX2_readInto 83 = .ok (.aload_n 0, 1) := dc_of qt_q62_cX2_readInto 23 rfl
def ql_q63_cX2_readInto : List (Nat × Jvm.ClassFile.Instr × Nat) := [(84, .aload_n 1, 1), (85, .iload_n 3, 1), (86, .invokevirtual 52, 3), (89, .iinc 2 1, 3), (92, .goto (-35), 3), (95, .aload_n 0, 1), (96, .invokevirtual 56, 3), (99, .aload_n 0, 1), (100, .getfield 15, 3), (103, .aload_n 0, 1), (104, .getfield 9, 3), (107, .getfield 59, 3), (110, .if_icmp .ge 11, 3), (113, .aload_n 0, 1), (114, .aload_n 0, 1), (115, .getfield 15, 3), (118, .invokevirtual 64, 3), (121, .aload_n 0, 1), (122, .invokevirtual 31, 3), (125, .ifCond .ne 10, 3), (128, .iconst (-1), 1), (129, .aload_n 0, 1), (130, .getfield 19, 3), (133, .isub, 1)]
theorem qt_q63_cX2_readInto : dcAll cX2_readInto ql_q63_cX2_readInto = true := by decide +kernel
theorem dX2_readInto_84 : decode cX2_readInto 84 = .ok (.aload_n 1, 1) := dc_of qt_q63_cX2_readInto 0 rfl
theorem dX2_readInto_85 : decode cX2_readInto 85 = .ok (.iload_n 3, 1) := dc_of qt_q63_cX2_readInto 1 rfl
theorem dX2_readInto_86 : decode cX2_readInto 86 = .ok (.invokevirtual 52, 3) := dc_of qt_q63_cX2_readInto 2 rfl
theorem dX2_readInto_89 : decode cX2_readInto 89 = .ok (.iinc 2 1, 3) := dc_of qt_q63_cX2_readInto 3 rfl
theorem dX2_readInto_92 : decode cX2_readInto 92 = .ok (.goto (-35), 3) := dc_of qt_q63_cX2_readInto 4 rfl
theorem dX2_readInto_95 : decode cX2_readInto 95 = .ok (.aload_n 0, 1) := dc_of qt_q63_cX2_readInto 5 rfl
theorem dX2_readInto_96 : decode cX2_readInto 96 = .ok (.invokevirtual 56, 3) := dc_of qt_q63_cX2_readInto 6 rfl
theorem dX2_readInto_99 : decode cX2_readInto 99 = .ok (.aload_n 0, 1) := dc_of qt_q63_cX2_readInto 7 rfl
theorem dX2_readInto_100 : decode cX2_readInto 100 = .ok (.getfield 15, 3) := dc_of qt_q63_cX2_readInto 8 rfl
theorem dX2_readInto_103 : decode cX2_readInto 103 = .ok (.aload_n 0, 1) := dc_of qt_q63_cX2_readInto 9 rfl
theorem dX2_readInto_104 : decode cX2_readInto 104 = .ok (.getfield 9, 3) := dc_of qt_q63_cX2_readInto 10 rfl
theorem dX2_readInto_107 : decode cX2_readInto 107 = .ok (.getfield 59, 3) := dc_of qt_q63_cX2_readInto 11 rfl
theorem dX2_readInto_110 : decode cX2_readInto 110 = .ok (.if_icmp .ge 11, 3) := dc_of qt_q63_cX2_readInto 12 rfl
theorem dX2_readInto_113 : decode cX2_readInto 113 = .ok (.aload_n 0, 1) := dc_of qt_q63_cX2_readInto 13 rfl
theorem dX2_readInto_114 : decode cX2_readInto 114 = .ok (.aload_n 0, 1) := dc_of qt_q63_cX2_readInto 14 rfl
theorem dX2_readInto_115 : decode cX2_readInto 115 = .ok (.getfield 15, 3) := dc_of qt_q63_cX2_readInto 15 rfl
theorem dX2_readInto_118 : decode cX2_readInto 118 = .ok (.invokevirtual 64, 3) := dc_of qt_q63_cX2_readInto 16 rfl
theorem dX2_readInto_121 : decode cX2_readInto 121 = .ok (.aload_n 0, 1) := dc_of qt_q63_cX2_readInto 17 rfl
theorem dX2_readInto_122 : decode cX2_readInto 122 = .ok (.invokevirtual 31, 3) := dc_of qt_q63_cX2_readInto 18 rfl
theorem dX2_readInto_125 : decode cX2_readInto 125 = .ok (.ifCond .ne 10, 3) := dc_of qt_q63_cX2_readInto 19 rfl
theorem dX2_readInto_128 : decode cX2_readInto 128 = .ok (.iconst (-1), 1) := dc_of qt_q63_cX2_readInto 20 rfl
theorem dX2_readInto_129 : decode cX2_readInto 129 = .ok (.aload_n 0, 1) := dc_of qt_q63_cX2_readInto 21 rfl
theorem dX2_readInto_130 : decode cX2_readInto 130 = .ok (.getfield 19, 3) := dc_of qt_q63_cX2_readInto 22 rfl
theorem dX2_readInto_133 : decode cX2_readInto 133 = .ok (.isub, 1) := dc_of qt_q63_cX2_readInto 23 rfl
def ql_q64_cX2_readInto : List (Nat × Jvm.ClassFile.Instr × Nat) := [(134, .ireturn, 1), (135, .aload_n 1, 1), (136, .invokevirtual 68, 3), (139, .aload_n 0, 1), (140, .getfield 45, 3), (143, .ireturn, 1)]
theorem qt_q64_cX2_readInto : dcAll cX2_readInto ql_q64_cX2_readInto = true := by decide +kernel
theorem dX2_readInto_134 : decode cX2_readInto 134 = .ok (.ireturn, 1) := dc_of qt_q64_cX2_readInto 0 rfl
theorem dX2_readInto_135 : decode cX2_readInto 135 = .ok (.aload_n 1, 1) := dc_of qt_q64_cX2_readInto 1 rfl
theorem dX2_readInto_136 : decode cX2_readInto 136 = .ok (.invokevirtual 68, 3) := dc_of qt_q64_cX2_readInto 2 rfl
theorem dX2_readInto_139 : decode cX2_readInto 139 = .ok (.aload_n 0, 1) := dc_of qt_q64_cX2_readInto 3 rfl
theorem dX2_readInto_140 : decode cX2_readInto 140 = .ok (.getfield 45, 3) := dc_of qt_q64_cX2_readInto 4 rfl
theorem dX2_readInto_143 : decode cX2_readInto 143 = .ok (.ireturn, 1) := dc_of qt_q64_cX2_readInto 5 rfl
def ql_q65_cX2_goesOn : List (Nat × Jvm.ClassFile.Instr × Nat) := [(0, .aload_n 0, 1), (1, .getfield 19, 3), (4, .iconst (-1), 1), (5, .if_icmp .ne 7, 3), (8, .iconst 1, 1), (9, .goto 4, 3), (12, .iconst 0, 1), (13, .ireturn, 1)]
theorem qt_q65_cX2_goesOn : dcAll cX2_goesOn ql_q65_cX2_goesOn = true := by decide +kernel
theorem dX2_goesOn_0 : decode cX2_goesOn 0 = .ok (.aload_n 0, 1) := dc_of qt_q65_cX2_goesOn 0 rfl
theorem dX2_goesOn_1 : decode cX2_goesOn 1 = .ok (.getfield 19, 3) := dc_of qt_q65_cX2_goesOn 1 rfl
theorem dX2_goesOn_4 : decode cX2_goesOn 4 = .ok (.iconst (-1), 1) := dc_of qt_q65_cX2_goesOn 2 rfl
theorem dX2_goesOn_5 : decode cX2_goesOn 5 = .ok (.if_icmp .ne 7, 3) := dc_of qt_q65_cX2_goesOn 3 rfl
theorem dX2_goesOn_8 : decode cX2_goesOn 8 = .ok (.iconst 1, 1) := dc_of qt_q65_cX2_goesOn 4 rfl
theorem dX2_goesOn_9 : decode cX2_goesOn 9 = .ok (.goto 4, 3) := dc_of qt_q65_cX2_goesOn 5 rfl
theorem dX2_goesOn_12 : decode cX2_goesOn 12 = .ok (.iconst 0, 1) := dc_of qt_q65_cX2_goesOn 6 rfl
theorem dX2_goesOn_13 : decode cX2_goesOn 13 = .ok (.ireturn, 1) := dc_of qt_q65_cX2_goesOn 7 rfl
def ql_q66_cX2_endAt : List (Nat × Jvm.ClassFile.Instr × Nat) := [(0, .aload_n 0, 1), (1, .getfield 19, 3), (4, .iconst (-1), 1), (5, .if_icmp .ne 8, 3), (8, .aload_n 0, 1), (9, .iload_n 1, 1), (10, .putfield 19, 3), (13, .return_, 1)]
theorem qt_q66_cX2_endAt : dcAll cX2_endAt ql_q66_cX2_endAt = true := by decide +kernel
theorem dX2_endAt_0 : decode cX2_endAt 0 = .ok (.aload_n 0, 1) := dc_of qt_q66_cX2_endAt 0 rfl
theorem dX2_endAt_1 : decode cX2_endAt 1 = .ok (.getfield 19, 3) := dc_of qt_q66_cX2_endAt 1 rfl
theorem dX2_endAt_4 : decode cX2_endAt 4 = .ok (.iconst (-1), 1) := dc_of qt_q66_cX2_endAt 2 rfl
theorem dX2_endAt_5 : decode cX2_endAt 5 = .ok (.if_icmp .ne 8, 3) := dc_of qt_q66_cX2_endAt 3 rfl
theorem dX2_endAt_8 : decode cX2_endAt 8 = .ok (.aload_n 0, 1) := dc_of qt_q66_cX2_endAt 4 rfl
theorem dX2_endAt_9 : decode cX2_endAt 9 = .ok (.iload_n 1, 1) := dc_of qt_q66_cX2_endAt 5 rfl
theorem dX2_endAt_10 : decode cX2_endAt 10 = .ok (.putfield 19, 3) := dc_of qt_q66_cX2_endAt 6 rfl
theorem dX2_endAt_13 : decode cX2_endAt 13 = .ok (.return_, 1) := dc_of qt_q66_cX2_endAt 7 rfl
set_option maxRecDepth 20000 in
theorem ggX2_nextByte_X2_endAt : GoodIn wsX2_nextByte wsX2_endAt := goodIn_r _ [7, 8, 9, 10, 11, 12, 13] rfl (by decide +kernel)
def ql_q67_cX2_nextByte : List (Nat × Jvm.ClassFile.Instr × Nat) := [(0, .aload_n 0, 1), (1, .getfield 15, 3), (4, .aload_n 0, 1), (5, .getfield 9, 3), (8, .getfield 59, 3), (11, .if_icmp .lt 16, 3), (14, .aload_n 0, 1), (15, .aload_n 0, 1), (16, .getfield 9, 3), (19, .getfield 59, 3), (22, .invokevirtual 64, 3), (25, .iconst 0, 1), (26, .ireturn, 1), (27, .aload_n 0, 1), (28, .getfield 9, 3), (31, .getfield 71, 3), (34, .aload_n 0, 1), (35, .getfield 15, 3), (38, .iaload, 1), (39, .istore_n 1, 1), (40, .aload_n 0, 1), (41, .dup, 1), (42, .getfield 15, 3), (45, .iconst 1, 1)]
theorem qt_q67_cX2_nextByte : dcAll cX2_nextByte ql_q67_cX2_nextByte = true := by decide +kernel
theorem dX2_nextByte_0 : decode cX2_nextByte 0 = .ok (.aload_n 0, 1) := dc_of qt_q67_cX2_nextByte 0 rfl
theorem dX2_nextByte_1 : decode cX2_nextByte 1 = .ok (.getfield 15, 3) := dc_of qt_q67_cX2_nextByte 1 rfl
theorem dX2_nextByte_4 : decode cX2_nextByte 4 = .ok (.aload_n 0, 1) := dc_of qt_q67_cX2_nextByte 2 rfl
theorem dX2_nextByte_5 : decode cX2_nextByte 5 = .ok (.getfield 9, 3) := dc_of qt_q67_cX2_nextByte 3 rfl
theorem dX2_nextByte_8 : decode cX2_nextByte 8 = .ok (.getfield 59, 3) := dc_of qt_q67_cX2_nextByte 4 rfl
theorem dX2_nextByte_11 : decode cX2_nextByte 11 = .ok (.if_icmp .lt 16, 3) := dc_of qt_q67_cX2_nextByte 5 rfl
theorem dX2_nextByte_14 : decode cX2_nextByte 14 = .ok (.aload_n 0, 1) := dc_of qt_q67_cX2_nextByte 6 rfl
theorem dX2_nextByte_15 : decode cX2_nextByte 15 = .ok (.aload_n 0, 1) := dc_of qt_q67_cX2_nextByte 7 rfl
theorem dX2_nextByte_16 : decode cX2_nextByte 16 = .ok (.getfield 9, 3) := dc_of qt_q67_cX2_nextByte 8 rfl
theorem dX2_nextByte_19 : decode cX2_nextByte 19 = .ok (.getfield 59, 3) := dc_of qt_q67_cX2_nextByte 9 rfl
theorem dX2_nextByte_22 : decode cX2_nextByte 22 = .ok (.invokevirtual 64, 3) := dc_of qt_q67_cX2_nextByte 10 rfl
theorem dX2_nextByte_25 : decode cX2_nextByte 25 = .ok (.iconst 0, 1) := dc_of qt_q67_cX2_nextByte 11 rfl
theorem dX2_nextByte_26 : decode cX2_nextByte 26 = .ok (.ireturn, 1) := dc_of qt_q67_cX2_nextByte 12 rfl
theorem dX2_nextByte_27 : decode cX2_nextByte 27 = .ok (.aload_n 0, 1) := dc_of qt_q67_cX2_nextByte 13 rfl
theorem dX2_nextByte_28 : decode cX2_nextByte 28 = .ok (.getfield 9, 3) := dc_of qt_q67_cX2_nextByte 14 rfl
theorem dX2_nextByte_31 : decode cX2_nextByte 31 = .ok (.getfield 71, 3) := dc_of qt_q67_cX2_nextByte 15 rfl
theorem dX2_nextByte_34 : decode cX2_nextByte 34 = .ok (.aload_n 0, 1) := dc_of qt_q67_cX2_nextByte 16 rfl
theorem dX2_nextByte_35 : decode cX2_nextByte 35 = .ok (.getfield 15, 3) := dc_of qt_q67_cX2_nextByte 17 rfl
theorem dX2_nextByte_38 : decode cX2_nextByte 38 = .ok (.iaload, 1) := dc_of qt_q67_cX2_nextByte 18 rfl
theorem dX2_nextByte_39 : decode cX2_nextByte 39 = .ok (.istore_n 1, 1) := dc_of qt_q67_cX2_nextByte 19 rfl
theorem dX2_nextByte_40 : decode cX2_nextByte 40 = .ok (.aload_n 0, 1) := dc_of qt_q67_cX2_nextByte 20 rfl
theorem dX2_nextByte_41 : decode cX2_nextByte 41 = .ok (.dup, 1) := dc_of qt_q67_cX2_nextByte 21 rfl
theorem dX2_nextByte_42 : decode cX2_nextByte 42 = .ok (.getfield 15, 3) := dc_of qt_q67_cX2_nextByte 22 rfl
theorem dX2_nextByte_45 : decode cX2_nextByte 45 = .ok (.iconst 1, 1) := dc_of qt_q67_cX2_nextByte 23 rfl
def ql_q68_cX2_nextByte : List (Nat × Jvm.ClassFile.Instr × Nat) := [(46, .iadd, 1), (47, .putfield 15, 3), (50, .iload_n 1, 1), (51, .ireturn, 1)]
theorem qt_q68_cX2_nextByte : dcAll cX2_nextByte ql_q68_cX2_nextByte = true := by decide +kernel
theorem dX2_nextByte_46 : decode cX2_nextByte 46 = .ok (.iadd, 1) := dc_of qt_q68_cX2_nextByte 0 rfl
theorem dX2_nextByte_47 : decode cX2_nextByte 47 = .ok (.putfield 15, 3) := dc_of qt_q68_cX2_nextByte 1 rfl
theorem dX2_nextByte_50 : decode cX2_nextByte 50 = .ok (.iload_n 1, 1) := dc_of qt_q68_cX2_nextByte 2 rfl
theorem dX2_nextByte_51 : decode cX2_nextByte 51 = .ok (.ireturn, 1) := dc_of qt_q68_cX2_nextByte 3 rfl
set_option maxRecDepth 20000 in
theorem ggX2_nextCount_X2_nextByte : GoodIn wsX2_nextCount wsX2_nextByte := goodIn_r _ [7, 1, 8, 9, 10, 11, 6, 12, 13, 14, 15, 16, 17, 18, 19, 20] rfl (by decide +kernel)
set_option maxRecDepth 20000 in
theorem ggX2_nextCount_X2_endAt : GoodIn wsX2_nextCount wsX2_endAt := goodIn_r _ [12, 13, 14, 15, 16, 17, 18] rfl (by decide +kernel)
def ql_q69_cX2_nextCount : List (Nat × Jvm.ClassFile.Instr × Nat) := [(0, .aload_n 0, 1), (1, .getfield 15, 3), (4, .istore_n 1, 1), (5, .lconst 0, 1), (6, .lstore_n 2, 1), (7, .sipush 128, 3), (10, .istore 4, 2), (12, .iconst 0, 1), (13, .istore 5, 2), (15, .iload 5, 2), (17, .iconst 5, 1), (18, .if_icmp .gt 38, 3), (21, .iload 4, 2), (23, .sipush 128, 3), (26, .if_icmp .lt 30, 3), (29, .aload_n 0, 1), (30, .invokevirtual 74, 3), (33, .istore 4, 2), (35, .lload_n 2, 1), (36, .iload 4, 2), (38, .bipush 127, 2), (40, .iand, 1), (41, .i2l, 1), (42, .bipush 7, 2)]
theorem qt_q69_cX2_nextCount : dcAll cX2_nextCount ql_q69_cX2_nextCount = true := by decide +kernel
theorem dX2_nextCount_0 : decode cX2_nextCount 0 = .ok (.aload_n 0, 1) := dc_of qt_q69_cX2_nextCount 0 rfl
theorem dX2_nextCount_1 : decode cX2_nextCount 1 = .ok (.getfield 15, 3) := dc_of qt_q69_cX2_nextCount 1 rfl
theorem dX2_nextCount_4 : decode cX2_nextCount 4 = .ok (.istore_n 1, 1) := dc_of qt_q69_cX2_nextCount 2 rfl
theorem dX2_nextCount_5 : decode cX2_nextCount 5 = .ok (.lconst 0, 1) := dc_of qt_q69_cX2_nextCount 3 rfl
theorem dX2_nextCount_6 : decode cX2_nextCount 6 = .ok (.lstore_n 2, 1) := dc_of qt_q69_cX2_nextCount 4 rfl
theorem dX2_nextCount_7 : decode cX2_nextCount 7 = .ok (.sipush 128, 3) := dc_of qt_q69_cX2_nextCount 5 rfl
theorem dX2_nextCount_10 : decode cX2_nextCount 10 = .ok (.istore 4, 2) := dc_of qt_q69_cX2_nextCount 6 rfl
theorem dX2_nextCount_12 : decode cX2_nextCount 12 = .ok (.iconst 0, 1) := dc_of qt_q69_cX2_nextCount 7 rfl
theorem dX2_nextCount_13 : decode cX2_nextCount 13 = .ok (.istore 5, 2) := dc_of qt_q69_cX2_nextCount 8 rfl
theorem dX2_nextCount_15 : decode cX2_nextCount 15 = .ok (.iload 5, 2) := dc_of qt_q69_cX2_nextCount 9 rfl
theorem dX2_nextCount_17 : decode cX2_nextCount 17 = .ok (.iconst 5, 1) := dc_of qt_q69_cX2_nextCount 10 rfl
theorem dX2_nextCount_18 : decode cX2_nextCount 18 = .ok (.if_icmp .gt 38, 3) := dc_of qt_q69_cX2_nextCount 11 rfl
theorem dX2_nextCount_21 : decode cX2_nextCount 21 = .ok (.iload 4, 2) := dc_of qt_q69_cX2_nextCount 12 rfl
theorem dX2_nextCount_23 : decode cX2_nextCount 23 = .ok (.sipush 128, 3) := dc_of qt_q69_cX2_nextCount 13 rfl
theorem dX2_nextCount_26 : decode cX2_nextCount 26 = .ok (.if_icmp .lt 30, 3) := dc_of qt_q69_cX2_nextCount 14 rfl
theorem dX2_nextCount_29 : decode cX2_nextCount 29 = .ok (.aload_n 0, 1) := dc_of qt_q69_cX2_nextCount 15 rfl
theorem dX2_nextCount_30 : decode cX2_nextCount 30 = .ok (.invokevirtual 74, 3) := dc_of qt_q69_cX2_nextCount 16 rfl
theorem dX2_nextCount_33 : decode cX2_nextCount 33 = .ok (.istore 4, 2) := dc_of qt_q69_cX2_nextCount 17 rfl
theorem dX2_nextCount_35 : decode cX2_nextCount 35 = .ok (.lload_n 2, 1) := dc_of qt_q69_cX2_nextCount 18 rfl
theorem dX2_nextCount_36 : decode cX2_nextCount 36 = .ok (.iload 4, 2) := dc_of qt_q69_cX2_nextCount 19 rfl
theorem dX2_nextCount_38 : decode cX2_nextCount 38 = .ok (.bipush 127, 2) := dc_of qt_q69_cX2_nextCount 20 rfl
theorem dX2_nextCount_40 : decode cX2_nextCount 40 = .ok (.iand, 1) := dc_of qt_q69_cX2_nextCount 21 rfl
theorem dX2_nextCount_41 : decode cX2_nextCount 41 = .ok (.i2l, 1) := dc_of qt_q69_cX2_nextCount 22 rfl
theorem dX2_nextCount_42 : decode cX2_nextCount 42 = .ok (.bipush 7, 2) := dc_of qt_q69_cX2_nextCount 23 rfl
def ql_q70_cX2_nextCount : List (Nat × Jvm.ClassFile.Instr × Nat) := [(44, .iload 5, 2), (46, .imul, 1), (47, .lshl, 1), (48, .lor, 1), (49, .lstore_n 2, 1), (50, .iinc 5 1, 3), (53, .goto (-38), 3), (56, .aload_n 0, 1), (57, .getfield 15, 3), (60, .iload_n 1, 1), (61, .isub, 1), (62, .istore 5, 2), (64, .iload 5, 2), (66, .iconst 5, 1), (67, .if_icmp .gt 22, 3), (70, .iload 5, 2), (72, .iconst 1, 1), (73, .if_icmp .le 8, 3), (76, .iload 4, 2), (78, .ifCond .eq 11, 3), (81, .lload_n 2, 1), (82, .ldc2_w 78, 3), (85, .lcmp, 1), (86, .ifCond .lt 8, 3)]
theorem qt_q70_cX2_nextCount : dcAll cX2_nextCount ql_q70_cX2_nextCount = true := by decide +kernel
theorem dX2_nextCount_44 : decode cX2_nextCount 44 = .ok (.iload 5, 2) := dc_of qt_q70_cX2_nextCount 0 rfl
theorem dX2_nextCount_46 : decode cX2_nextCount 46 = .ok (.imul, 1) := dc_of qt_q70_cX2_nextCount 1 rfl
theorem dX2_nextCount_47 : decode cX2_nextCount 47 = .ok (.lshl, 1) := dc_of qt_q70_cX2_nextCount 2 rfl
theorem dX2_nextCount_48 : decode cX2_nextCount 48 = .ok (.lor, 1) := dc_of qt_q70_cX2_nextCount 3 rfl
theorem dX2_nextCount_49 : decode cX2_nextCount 49 = .ok (.lstore_n 2, 1) := dc_of qt_q70_cX2_nextCount 4 rfl
theorem dX2_nextCount_50 : decode cX2_nextCount 50 = .ok (.iinc 5 1, 3) := dc_of qt_q70_cX2_nextCount 5 rfl
theorem dX2_nextCount_53 : decode cX2_nextCount 53 = .ok (.goto (-38), 3) := dc_of qt_q70_cX2_nextCount 6 rfl
theorem dX2_nextCount_56 : decode cX2_nextCount 56 = .ok (.aload_n 0, 1) := dc_of qt_q70_cX2_nextCount 7 rfl
theorem dX2_nextCount_57 : decode cX2_nextCount 57 = .ok (.getfield 15, 3) := dc_of qt_q70_cX2_nextCount 8 rfl
theorem dX2_nextCount_60 : decode cX2_nextCount 60 = .ok (.iload_n 1, 1) := dc_of qt_q70_cX2_nextCount 9 rfl
theorem dX2_nextCount_61 : decode cX2_nextCount 61 = .ok (.isub, 1) := dc_of qt_q70_cX2_nextCount 10 rfl
theorem dX2_nextCount_62 : decode cX2_nextCount 62 = .ok (.istore 5, 2) := dc_of qt_q70_cX2_nextCount 11 rfl
theorem dX2_nextCount_64 : decode cX2_nextCount 64 = .ok (.iload 5, 2) := dc_of qt_q70_cX2_nextCount 12 rfl
theorem dX2_nextCount_66 : decode cX2_nextCount 66 = .ok (.iconst 5, 1) := dc_of qt_q70_cX2_nextCount 13 rfl
theorem dX2_nextCount_67 : decode cX2_nextCount 67 = .ok (.if_icmp .gt 22, 3) := dc_of qt_q70_cX2_nextCount 14 rfl
theorem dX2_nextCount_70 : decode cX2_nextCount 70 = .ok (.iload 5, 2) := dc_of qt_q70_cX2_nextCount 15 rfl
theorem dX2_nextCount_72 : decode cX2_nextCount 72 = .ok (.iconst 1, 1) := dc_of qt_q70_cX2_nextCount 16 rfl
theorem dX2_nextCount_73 : decode cX2_nextCount 73 = .ok (.if_icmp .le 8, 3) := dc_of qt_q70_cX2_nextCount 17 rfl
theorem dX2_nextCount_76 : decode cX2_nextCount 76 = .ok (.iload 4, 2) := dc_of qt_q70_cX2_nextCount 18 rfl
theorem dX2_nextCount_78 : decode cX2_nextCount 78 = .ok (.ifCond .eq 11, 3) := dc_of qt_q70_cX2_nextCount 19 rfl
theorem dX2_nextCount_81 : decode cX2_nextCount 81 = .ok (.lload_n 2, 1) := dc_of qt_q70_cX2_nextCount 20 rfl
theorem dX2_nextCount_82 : decode cX2_nextCount 82 = .ok (.ldc2_w 78, 3) := dc_of qt_q70_cX2_nextCount 21 rfl
theorem dX2_nextCount_85 : decode cX2_nextCount 85 = .ok (.lcmp, 1) := dc_of qt_q70_cX2_nextCount 22 rfl
theorem dX2_nextCount_86 : decode cX2_nextCount 86 = .ok (.ifCond .lt 8, 3) := dc_of qt_q70_cX2_nextCount 23 rfl
def ql_q71_cX2_nextCount : List (Nat × Jvm.ClassFile.Instr × Nat) := [(89, .aload_n 0, 1), (90, .iload_n 1, 1), (91, .invokevirtual 64, 3), (94, .lload_n 2, 1), (95, .lreturn, 1)]
theorem qt_q71_cX2_nextCount : dcAll cX2_nextCount ql_q71_cX2_nextCount = true := by decide +kernel
theorem dX2_nextCount_89 : decode cX2_nextCount 89 = .ok (.aload_n 0, 1) := dc_of qt_q71_cX2_nextCount 0 rfl
theorem dX2_nextCount_90 : decode cX2_nextCount 90 = .ok (.iload_n 1, 1) := dc_of qt_q71_cX2_nextCount 1 rfl
theorem dX2_nextCount_91 : decode cX2_nextCount 91 = .ok (.invokevirtual 64, 3) := dc_of qt_q71_cX2_nextCount 2 rfl
theorem dX2_nextCount_94 : decode cX2_nextCount 94 = .ok (.lload_n 2, 1) := dc_of qt_q71_cX2_nextCount 3 rfl
theorem dX2_nextCount_95 : decode cX2_nextCount 95 = .ok (.lreturn, 1) := dc_of qt_q71_cX2_nextCount 4 rfl
set_option maxRecDepth 20000 in
theorem ggX2_readSign_X2_readSignByte : GoodIn wsX2_readSign wsX2_readSignByte := goodIn_r _ [5, 6, 7, 8, 9, 4, 10, 11, 12, 13, 14, 15, 16, 17, 18, 19, 20, 21, 22, 23] rfl (by decide +kernel)
def ql_q72_cX2_readSign : List (Nat × Jvm.ClassFile.Instr × Nat) := [(0, .aload_n 0, 1), (1, .bipush 72, 2), (3, .invokevirtual 80, 3), (6, .aload_n 0, 1), (7, .bipush 73, 2), (9, .invokevirtual 80, 3), (12, .aload_n 0, 1), (13, .iconst 1, 1), (14, .invokevirtual 80, 3), (17, .return_, 1)]
theorem qt_q72_cX2_readSign : dcAll cX2_readSign ql_q72_cX2_readSign = true := by decide +kernel
theorem dX2_readSign_0 : decode cX2_readSign 0 = .ok (.aload_n 0, 1) := dc_of qt_q72_cX2_readSign 0 rfl
theorem dX2_readSign_1 : decode cX2_readSign 1 = .ok (.bipush 72, 2) := dc_of qt_q72_cX2_readSign 1 rfl
theorem dX2_readSign_3 : decode cX2_readSign 3 = .ok (.invokevirtual 80, 3) := dc_of qt_q72_cX2_readSign 2 rfl
theorem dX2_readSign_6 : decode cX2_readSign 6 = .ok (.aload_n 0, 1) := dc_of qt_q72_cX2_readSign 3 rfl
theorem dX2_readSign_7 : decode cX2_readSign 7 = .ok (.bipush 73, 2) := dc_of qt_q72_cX2_readSign 4 rfl
theorem dX2_readSign_9 : decode cX2_readSign 9 = .ok (.invokevirtual 80, 3) := dc_of qt_q72_cX2_readSign 5 rfl
theorem dX2_readSign_12 : decode cX2_readSign 12 = .ok (.aload_n 0, 1) := dc_of qt_q72_cX2_readSign 6 rfl
theorem dX2_readSign_13 : decode cX2_readSign 13 = .ok (.iconst 1, 1) := dc_of qt_q72_cX2_readSign 7 rfl
theorem dX2_readSign_14 : decode cX2_readSign 14 = .ok (.invokevirtual 80, 3) := dc_of qt_q72_cX2_readSign 8 rfl
theorem dX2_readSign_17 : decode cX2_readSign 17 = .ok (.return_, 1) := dc_of qt_q72_cX2_readSign 9 rfl
set_option maxRecDepth 20000 in
theorem ggX2_readSignByte_X2_nextByte : GoodIn wsX2_readSignByte wsX2_nextByte := goodIn_r _ [6, 1, 7, 8, 9, 10, 5, 11, 12, 13, 14, 15, 16, 17, 18, 19] rfl (by decide +kernel)
set_option maxRecDepth 20000 in
theorem ggX2_readSignByte_X2_endAt : GoodIn wsX2_readSignByte wsX2_endAt := goodIn_r _ [11, 12, 13, 14, 15, 16, 17] rfl (by decide +kernel)
def ql_q73_cX2_readSignByte : List (Nat × Jvm.ClassFile.Instr × Nat) := [(0, .aload_n 0, 1), (1, .getfield 15, 3), (4, .istore_n 2, 1), (5, .aload_n 0, 1), (6, .invokevirtual 74, 3), (9, .iload_n 1, 1), (10, .if_icmp .eq 8, 3), (13, .aload_n 0, 1), (14, .iload_n 2, 1), (15, .invokevirtual 64, 3), (18, .return_, 1)]
theorem qt_q73_cX2_readSignByte : dcAll cX2_readSignByte ql_q73_cX2_readSignByte = true := by decide +kernel
theorem dX2_readSignByte_0 : decode cX2_readSignByte 0 = .ok (.aload_n 0, 1) := dc_of qt_q73_cX2_readSignByte 0 rfl
theorem dX2_readSignByte_1 : decode cX2_readSignByte 1 = .ok (.getfield 15, 3) := dc_of qt_q73_cX2_readSignByte 1 rfl
theorem dX2_readSignByte_4 : decode cX2_readSignByte 4 = .ok (.istore_n 2, 1) := dc_of qt_q73_cX2_readSignByte 2 rfl
theorem dX2_readSignByte_5 : decode cX2_readSignByte 5 = .ok (.aload_n 0, 1) := dc_of qt_q73_cX2_readSignByte 3 rfl
theorem dX2_readSignByte_6 : decode cX2_readSignByte 6 = .ok (.invokevirtual 74, 3) := dc_of qt_q73_cX2_readSignByte 4 rfl
theorem dX2_readSignByte_9 : decode cX2_readSignByte 9 = .ok (.iload_n 1, 1) := dc_of qt_q73_cX2_readSignByte 5 rfl
theorem dX2_readSignByte_10 : decode cX2_readSignByte 10 = .ok (.if_icmp .eq 8, 3) := dc_of qt_q73_cX2_readSignByte 6 rfl
theorem dX2_readSignByte_13 : decode cX2_readSignByte 13 = .ok (.aload_n 0, 1) := dc_of qt_q73_cX2_readSignByte 7 rfl
theorem dX2_readSignByte_14 : decode cX2_readSignByte 14 = .ok (.iload_n 2, 1) := dc_of qt_q73_cX2_readSignByte 8 rfl
theorem dX2_readSignByte_15 : decode cX2_readSignByte 15 = .ok (.invokevirtual 64, 3) := dc_of qt_q73_cX2_readSignByte 9 rfl
theorem dX2_readSignByte_18 : decode cX2_readSignByte 18 = .ok (.return_, 1) := dc_of qt_q73_cX2_readSignByte 10 rfl
set_option maxRecDepth 20000 in
theorem ggX2_readObjectCount_X2_nextCount : GoodIn wsX2_readObjectCount wsX2_nextCount := goodIn_r _ [12, 1, 13, 14, 15, 16, 11, 17, 18, 19, 20, 21, 22, 23, 24, 25, 26, 27, 28, 29, 30] rfl (by decide +kernel)
set_option maxRecDepth 20000 in
theorem ggX2_readObjectCount_X2_endAt : GoodIn wsX2_readObjectCount wsX2_endAt := goodIn_r _ [22, 23, 24, 25, 26, 27, 28] rfl (by decide +kernel)
def ql_q74_cX2_readObjectCount : List (Nat × Jvm.ClassFile.Instr × Nat) := [(0, .aload_n 0, 1), (1, .getfield 15, 3), (4, .istore_n 1, 1), (5, .aload_n 0, 1), (6, .invokevirtual 83, 3), (9, .lstore_n 2, 1), (10, .lload_n 2, 1), (11, .ldc2_w 87, 3), (14, .lcmp, 1), (15, .ifCond .le 8, 3), (18, .aload_n 0, 1), (19, .iload_n 1, 1), (20, .invokevirtual 64, 3), (23, .aload_n 0, 1), (24, .lload_n 2, 1), (25, .ldc2_w 87, 3), (28, .invokestatic 89, 3), (31, .l2i, 1), (32, .putfield 45, 3), (35, .return_, 1)]
theorem qt_q74_cX2_readObjectCount : dcAll cX2_readObjectCount ql_q74_cX2_readObjectCount = true := by decide +kernel
theorem dX2_readObjectCount_0 : decode cX2_readObjectCount 0 = .ok (.aload_n 0, 1) := dc_of qt_q74_cX2_readObjectCount 0 rfl
theorem dX2_readObjectCount_1 : decode cX2_readObjectCount 1 = .ok (.getfield 15, 3) := dc_of qt_q74_cX2_readObjectCount 1 rfl
theorem dX2_readObjectCount_4 : decode cX2_readObjectCount 4 = .ok (.istore_n 1, 1) := dc_of qt_q74_cX2_readObjectCount 2 rfl
theorem dX2_readObjectCount_5 : decode cX2_readObjectCount 5 = .ok (.aload_n 0, 1) := dc_of qt_q74_cX2_readObjectCount 3 rfl
theorem dX2_readObjectCount_6 : decode cX2_readObjectCount 6 = .ok (.invokevirtual 83, 3) := dc_of qt_q74_cX2_readObjectCount 4 rfl
theorem dX2_readObjectCount_9 : decode cX2_readObjectCount 9 = .ok (.lstore_n 2, 1) := dc_of qt_q74_cX2_readObjectCount 5 rfl
theorem dX2_readObjectCount_10 : decode cX2_readObjectCount 10 = .ok (.lload_n 2, 1) := dc_of qt_q74_cX2_readObjectCount 6 rfl
