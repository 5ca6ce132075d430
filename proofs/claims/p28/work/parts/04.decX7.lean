/-! the instructions of X7's methods, by program -/
def tbX7_init : List (Nat × Instr × Nat) := [(0, .aload_n 0, 1), (1, .invokespecial 3, 3), (4, .aload_n 0, 1), (5, .new 9, 3), (8, .dup, 1), (9, .invokespecial 11, 3), (12, .putfield 12, 3), (15, .aload_n 0, 1), (16, .new 16, 3), (19, .dup, 1), (20, .invokespecial 18, 3), (23, .putfield 19, 3), (26, .aload_n 0, 1), (27, .new 23, 3), (30, .dup, 1), (31, .invokespecial 25, 3), (34, .putfield 26, 3), (37, .aload_n 0, 1), (38, .new 23, 3), (41, .dup, 1), (42, .invokespecial 25, 3), (45, .putfield 30, 3), (48, .aload_n 0, 1), (49, .new 9, 3), (52, .dup, 1), (53, .invokespecial 11, 3), (56, .putfield 33, 3), (59, .aload_n 0, 1), (60, .new 36, 3), (63, .dup, 1), (64, .invokespecial 38, 3), (67, .putfield 39, 3), (70, .aload_n 0, 1), (71, .new 43, 3), (74, .dup, 1), (75, .invokespecial 45, 3), (78, .putfield 46, 3), (81, .aload_n 0, 1), (82, .new 50, 3), (85, .dup, 1), (86, .invokespecial 52, 3), (89, .putfield 53, 3), (92, .aload_n 0, 1), (93, .new 57, 3), (96, .dup, 1), (97, .invokespecial 59, 3), (100, .putfield 60, 3), (103, .aload_n 0, 1), (104, .bipush 20, 2), (106, .putfield 64, 3), (109, .return_, 1)]
set_option maxRecDepth 100000 in
theorem dtX7_init : allD cX7_init tbX7_init = true := by decide +kernel
theorem dX7_init_0 : decode cX7_init 0 = .ok (.aload_n 0, 1) := allD_get dtX7_init 0 rfl
theorem dX7_init_1 : decode cX7_init 1 = .ok (.invokespecial 3, 3) := allD_get dtX7_init 1 rfl
theorem dX7_init_4 : decode cX7_init 4 = .ok (.aload_n 0, 1) := allD_get dtX7_init 2 rfl
theorem dX7_init_5 : decode cX7_init 5 = .ok (.new 9, 3) := allD_get dtX7_init 3 rfl
theorem dX7_init_8 : decode cX7_init 8 = .ok (.dup, 1) := allD_get dtX7_init 4 rfl
theorem dX7_init_9 : decode cX7_init 9 = .ok (.invokespecial 11, 3) := allD_get dtX7_init 5 rfl
theorem dX7_init_12 : decode cX7_init 12 = .ok (.putfield 12, 3) := allD_get dtX7_init 6 rfl
theorem dX7_init_15 : decode cX7_init 15 = .ok (.aload_n 0, 1) := allD_get dtX7_init 7 rfl
theorem dX7_init_16 : decode cX7_init 16 = .ok (.new 16, 3) := allD_get dtX7_init 8 rfl
theorem dX7_init_19 : decode cX7_init 19 = .ok (.dup, 1) := allD_get dtX7_init 9 rfl
theorem dX7_init_20 : decode cX7_init 20 = .ok (.invokespecial 18, 3) := allD_get dtX7_init 10 rfl
theorem dX7_init_23 : decode cX7_init 23 = .ok (.putfield 19, 3) := allD_get dtX7_init 11 rfl
theorem dX7_init_26 : decode cX7_init 26 = .ok (.aload_n 0, 1) := allD_get dtX7_init 12 rfl
theorem dX7_init_27 : decode cX7_init 27 = .ok (.new 23, 3) := allD_get dtX7_init 13 rfl
theorem dX7_init_30 : decode cX7_init 30 = .ok (.dup, 1) := allD_get dtX7_init 14 rfl
theorem dX7_init_31 : decode cX7_init 31 = .ok (.invokespecial 25, 3) := allD_get dtX7_init 15 rfl
theorem dX7_init_34 : decode cX7_init 34 = .ok (.putfield 26, 3) := allD_get dtX7_init 16 rfl
theorem dX7_init_37 : decode cX7_init 37 = .ok (.aload_n 0, 1) := allD_get dtX7_init 17 rfl
theorem dX7_init_38 : decode cX7_init 38 = .ok (.new 23, 3) := allD_get dtX7_init 18 rfl
theorem dX7_init_41 : decode cX7_init 41 = .ok (.dup, 1) := allD_get dtX7_init 19 rfl
theorem dX7_init_42 : decode cX7_init 42 = .ok (.invokespecial 25, 3) := allD_get dtX7_init 20 rfl
theorem dX7_init_45 : decode cX7_init 45 = .ok (.putfield 30, 3) := allD_get dtX7_init 21 rfl
theorem dX7_init_48 : decode cX7_init 48 = .ok (.aload_n 0, 1) := allD_get dtX7_init 22 rfl
theorem dX7_init_49 : decode cX7_init 49 = .ok (.new 9, 3) := allD_get dtX7_init 23 rfl
theorem dX7_init_52 : decode cX7_init 52 = .ok (.dup, 1) := allD_get dtX7_init 24 rfl
theorem dX7_init_53 : decode cX7_init 53 = .ok (.invokespecial 11, 3) := allD_get dtX7_init 25 rfl
theorem dX7_init_56 : decode cX7_init 56 = .ok (.putfield 33, 3) := allD_get dtX7_init 26 rfl
theorem dX7_init_59 : decode cX7_init 59 = .ok (.aload_n 0, 1) := allD_get dtX7_init 27 rfl
theorem dX7_init_60 : decode cX7_init 60 = .ok (.new 36, 3) := allD_get dtX7_init 28 rfl
theorem dX7_init_63 : decode cX7_init 63 = .ok (.dup, 1) := allD_get dtX7_init 29 rfl
theorem dX7_init_64 : decode cX7_init 64 = .ok (.invokespecial 38, 3) := allD_get dtX7_init 30 rfl
theorem dX7_init_67 : decode cX7_init 67 = .ok (.putfield 39, 3) := allD_get dtX7_init 31 rfl
theorem dX7_init_70 : decode cX7_init 70 = .ok (.aload_n 0, 1) := allD_get dtX7_init 32 rfl
theorem dX7_init_71 : decode cX7_init 71 = .ok (.new 43, 3) := allD_get dtX7_init 33 rfl
theorem dX7_init_74 : decode cX7_init 74 = .ok (.dup, 1) := allD_get dtX7_init 34 rfl
theorem dX7_init_75 : decode cX7_init 75 = .ok (.invokespecial 45, 3) := allD_get dtX7_init 35 rfl
theorem dX7_init_78 : decode cX7_init 78 = .ok (.putfield 46, 3) := allD_get dtX7_init 36 rfl
theorem dX7_init_81 : decode cX7_init 81 = .ok (.aload_n 0, 1) := allD_get dtX7_init 37 rfl
theorem dX7_init_82 : decode cX7_init 82 = .ok (.new 50, 3) := allD_get dtX7_init 38 rfl
theorem dX7_init_85 : decode cX7_init 85 = .ok (.dup, 1) := allD_get dtX7_init 39 rfl
theorem dX7_init_86 : decode cX7_init 86 = .ok (.invokespecial 52, 3) := allD_get dtX7_init 40 rfl
theorem dX7_init_89 : decode cX7_init 89 = .ok (.putfield 53, 3) := allD_get dtX7_init 41 rfl
theorem dX7_init_92 : decode cX7_init 92 = .ok (.aload_n 0, 1) := allD_get dtX7_init 42 rfl
theorem dX7_init_93 : decode cX7_init 93 = .ok (.new 57, 3) := allD_get dtX7_init 43 rfl
theorem dX7_init_96 : decode cX7_init 96 = .ok (.dup, 1) := allD_get dtX7_init 44 rfl
theorem dX7_init_97 : decode cX7_init 97 = .ok (.invokespecial 59, 3) := allD_get dtX7_init 45 rfl
theorem dX7_init_100 : decode cX7_init 100 = .ok (.putfield 60, 3) := allD_get dtX7_init 46 rfl
theorem dX7_init_103 : decode cX7_init 103 = .ok (.aload_n 0, 1) := allD_get dtX7_init 47 rfl
theorem dX7_init_104 : decode cX7_init 104 = .ok (.bipush 20, 2) := allD_get dtX7_init 48 rfl
theorem dX7_init_106 : decode cX7_init 106 = .ok (.putfield 64, 3) := allD_get dtX7_init 49 rfl
theorem dX7_init_109 : decode cX7_init 109 = .ok (.return_, 1) := allD_get dtX7_init 50 rfl
def tbX7_put : List (Nat × Instr × Nat) := [(0, .iload_n 1, 1), (1, .invokestatic 68, 3), (4, .ifCond .eq 10, 3), (7, .iload_n 2, 1), (8, .invokestatic 68, 3), (11, .ifCond .ne 6, 3), (14, .bipush (-2), 2), (16, .ireturn, 1), (17, .aload_n 0, 1), (18, .getfield 12, 3), (21, .getfield 72, 3), (24, .bipush 24, 2), (26, .if_icmp .lt 6, 3), (29, .bipush (-3), 2), (31, .ireturn, 1), (32, .aload_n 0, 1), (33, .getfield 12, 3), (36, .iload_n 1, 1), (37, .iload_n 2, 1), (38, .invokevirtual 75, 3), (41, .aload_n 0, 1), (42, .getfield 12, 3), (45, .getfield 72, 3), (48, .ireturn, 1)]
set_option maxRecDepth 100000 in
theorem dtX7_put : allD cX7_put tbX7_put = true := by decide +kernel
theorem dX7_put_0 : decode cX7_put 0 = .ok (.iload_n 1, 1) := allD_get dtX7_put 0 rfl
theorem dX7_put_1 : decode cX7_put 1 = .ok (.invokestatic 68, 3) := allD_get dtX7_put 1 rfl
theorem dX7_put_4 : decode cX7_put 4 = .ok (.ifCond .eq 10, 3) := allD_get dtX7_put 2 rfl
theorem dX7_put_7 : decode cX7_put 7 = .ok (.iload_n 2, 1) := allD_get dtX7_put 3 rfl
theorem dX7_put_8 : decode cX7_put 8 = .ok (.invokestatic 68, 3) := allD_get dtX7_put 4 rfl
theorem dX7_put_11 : decode cX7_put 11 = .ok (.ifCond .ne 6, 3) := allD_get dtX7_put 5 rfl
theorem dX7_put_14 : decode cX7_put 14 = .ok (.bipush (-2), 2) := allD_get dtX7_put 6 rfl
theorem dX7_put_16 : decode cX7_put 16 = .ok (.ireturn, 1) := allD_get dtX7_put 7 rfl
theorem dX7_put_17 : decode cX7_put 17 = .ok (.aload_n 0, 1) := allD_get dtX7_put 8 rfl
theorem dX7_put_18 : decode cX7_put 18 = .ok (.getfield 12, 3) := allD_get dtX7_put 9 rfl
theorem dX7_put_21 : decode cX7_put 21 = .ok (.getfield 72, 3) := allD_get dtX7_put 10 rfl
theorem dX7_put_24 : decode cX7_put 24 = .ok (.bipush 24, 2) := allD_get dtX7_put 11 rfl
theorem dX7_put_26 : decode cX7_put 26 = .ok (.if_icmp .lt 6, 3) := allD_get dtX7_put 12 rfl
theorem dX7_put_29 : decode cX7_put 29 = .ok (.bipush (-3), 2) := allD_get dtX7_put 13 rfl
theorem dX7_put_31 : decode cX7_put 31 = .ok (.ireturn, 1) := allD_get dtX7_put 14 rfl
theorem dX7_put_32 : decode cX7_put 32 = .ok (.aload_n 0, 1) := allD_get dtX7_put 15 rfl
theorem dX7_put_33 : decode cX7_put 33 = .ok (.getfield 12, 3) := allD_get dtX7_put 16 rfl
theorem dX7_put_36 : decode cX7_put 36 = .ok (.iload_n 1, 1) := allD_get dtX7_put 17 rfl
theorem dX7_put_37 : decode cX7_put 37 = .ok (.iload_n 2, 1) := allD_get dtX7_put 18 rfl
theorem dX7_put_38 : decode cX7_put 38 = .ok (.invokevirtual 75, 3) := allD_get dtX7_put 19 rfl
theorem dX7_put_41 : decode cX7_put 41 = .ok (.aload_n 0, 1) := allD_get dtX7_put 20 rfl
theorem dX7_put_42 : decode cX7_put 42 = .ok (.getfield 12, 3) := allD_get dtX7_put 21 rfl
theorem dX7_put_45 : decode cX7_put 45 = .ok (.getfield 72, 3) := allD_get dtX7_put 22 rfl
theorem dX7_put_48 : decode cX7_put 48 = .ok (.ireturn, 1) := allD_get dtX7_put 23 rfl
def tbX7_clearPoints : List (Nat × Instr × Nat) := [(0, .aload_n 0, 1), (1, .getfield 12, 3), (4, .getfield 72, 3), (7, .istore_n 1, 1), (8, .aload_n 0, 1), (9, .getfield 12, 3), (12, .invokevirtual 79, 3), (15, .iload_n 1, 1), (16, .ireturn, 1)]
set_option maxRecDepth 100000 in
theorem dtX7_clearPoints : allD cX7_clearPoints tbX7_clearPoints = true := by decide +kernel
theorem dX7_clearPoints_0 : decode cX7_clearPoints 0 = .ok (.aload_n 0, 1) := allD_get dtX7_clearPoints 0 rfl
theorem dX7_clearPoints_1 : decode cX7_clearPoints 1 = .ok (.getfield 12, 3) := allD_get dtX7_clearPoints 1 rfl
theorem dX7_clearPoints_4 : decode cX7_clearPoints 4 = .ok (.getfield 72, 3) := allD_get dtX7_clearPoints 2 rfl
theorem dX7_clearPoints_7 : decode cX7_clearPoints 7 = .ok (.istore_n 1, 1) := allD_get dtX7_clearPoints 3 rfl
theorem dX7_clearPoints_8 : decode cX7_clearPoints 8 = .ok (.aload_n 0, 1) := allD_get dtX7_clearPoints 4 rfl
theorem dX7_clearPoints_9 : decode cX7_clearPoints 9 = .ok (.getfield 12, 3) := allD_get dtX7_clearPoints 5 rfl
theorem dX7_clearPoints_12 : decode cX7_clearPoints 12 = .ok (.invokevirtual 79, 3) := allD_get dtX7_clearPoints 6 rfl
theorem dX7_clearPoints_15 : decode cX7_clearPoints 15 = .ok (.iload_n 1, 1) := allD_get dtX7_clearPoints 7 rfl
theorem dX7_clearPoints_16 : decode cX7_clearPoints 16 = .ok (.ireturn, 1) := allD_get dtX7_clearPoints 8 rfl
def tbX7_type : List (Nat × Instr × Nat) := [(0, .aload_n 0, 1), (1, .getfield 19, 3), (4, .getfield 82, 3), (7, .bipush 100, 2), (9, .if_icmp .lt 6, 3), (12, .bipush (-3), 2), (14, .ireturn, 1), (15, .aload_n 0, 1), (16, .getfield 19, 3), (19, .iload_n 1, 1), (20, .invokevirtual 85, 3), (23, .aload_n 0, 1), (24, .getfield 19, 3), (27, .getfield 82, 3), (30, .ireturn, 1)]
set_option maxRecDepth 100000 in
theorem dtX7_type : allD cX7_type tbX7_type = true := by decide +kernel
theorem dX7_type_0 : decode cX7_type 0 = .ok (.aload_n 0, 1) := allD_get dtX7_type 0 rfl
theorem dX7_type_1 : decode cX7_type 1 = .ok (.getfield 19, 3) := allD_get dtX7_type 1 rfl
theorem dX7_type_4 : decode cX7_type 4 = .ok (.getfield 82, 3) := allD_get dtX7_type 2 rfl
theorem dX7_type_7 : decode cX7_type 7 = .ok (.bipush 100, 2) := allD_get dtX7_type 3 rfl
theorem dX7_type_9 : decode cX7_type 9 = .ok (.if_icmp .lt 6, 3) := allD_get dtX7_type 4 rfl
theorem dX7_type_12 : decode cX7_type 12 = .ok (.bipush (-3), 2) := allD_get dtX7_type 5 rfl
theorem dX7_type_14 : decode cX7_type 14 = .ok (.ireturn, 1) := allD_get dtX7_type 6 rfl
theorem dX7_type_15 : decode cX7_type 15 = .ok (.aload_n 0, 1) := allD_get dtX7_type 7 rfl
theorem dX7_type_16 : decode cX7_type 16 = .ok (.getfield 19, 3) := allD_get dtX7_type 8 rfl
theorem dX7_type_19 : decode cX7_type 19 = .ok (.iload_n 1, 1) := allD_get dtX7_type 9 rfl
theorem dX7_type_20 : decode cX7_type 20 = .ok (.invokevirtual 85, 3) := allD_get dtX7_type 10 rfl
theorem dX7_type_23 : decode cX7_type 23 = .ok (.aload_n 0, 1) := allD_get dtX7_type 11 rfl
theorem dX7_type_24 : decode cX7_type 24 = .ok (.getfield 19, 3) := allD_get dtX7_type 12 rfl
theorem dX7_type_27 : decode cX7_type 27 = .ok (.getfield 82, 3) := allD_get dtX7_type 13 rfl
theorem dX7_type_30 : decode cX7_type 30 = .ok (.ireturn, 1) := allD_get dtX7_type 14 rfl
def tbX7_clearText : List (Nat × Instr × Nat) := [(0, .aload_n 0, 1), (1, .getfield 19, 3), (4, .getfield 82, 3), (7, .istore_n 1, 1), (8, .aload_n 0, 1), (9, .getfield 19, 3), (12, .invokevirtual 88, 3), (15, .iload_n 1, 1), (16, .ireturn, 1)]
set_option maxRecDepth 100000 in
theorem dtX7_clearText : allD cX7_clearText tbX7_clearText = true := by decide +kernel
theorem dX7_clearText_0 : decode cX7_clearText 0 = .ok (.aload_n 0, 1) := allD_get dtX7_clearText 0 rfl
theorem dX7_clearText_1 : decode cX7_clearText 1 = .ok (.getfield 19, 3) := allD_get dtX7_clearText 1 rfl
theorem dX7_clearText_4 : decode cX7_clearText 4 = .ok (.getfield 82, 3) := allD_get dtX7_clearText 2 rfl
theorem dX7_clearText_7 : decode cX7_clearText 7 = .ok (.istore_n 1, 1) := allD_get dtX7_clearText 3 rfl
theorem dX7_clearText_8 : decode cX7_clearText 8 = .ok (.aload_n 0, 1) := allD_get dtX7_clearText 4 rfl
theorem dX7_clearText_9 : decode cX7_clearText 9 = .ok (.getfield 19, 3) := allD_get dtX7_clearText 5 rfl
theorem dX7_clearText_12 : decode cX7_clearText 12 = .ok (.invokevirtual 88, 3) := allD_get dtX7_clearText 6 rfl
theorem dX7_clearText_15 : decode cX7_clearText 15 = .ok (.iload_n 1, 1) := allD_get dtX7_clearText 7 rfl
theorem dX7_clearText_16 : decode cX7_clearText 16 = .ok (.ireturn, 1) := allD_get dtX7_clearText 8 rfl
def tbX7_readPoints : List (Nat × Instr × Nat) := [(0, .aload_n 0, 1), (1, .getfield 19, 3), (4, .aload_n 0, 1), (5, .getfield 33, 3), (8, .invokevirtual 89, 3), (11, .istore_n 1, 1), (12, .iload_n 1, 1), (13, .iconst (-1), 1), (14, .if_icmp .eq 8, 3), (17, .bipush (-100), 2), (19, .iload_n 1, 1), (20, .isub, 1), (21, .ireturn, 1), (22, .aload_n 0, 1), (23, .getfield 12, 3), (26, .aload_n 0, 1), (27, .getfield 33, 3), (30, .invokevirtual 93, 3), (33, .aload_n 0, 1), (34, .getfield 12, 3), (37, .getfield 72, 3), (40, .ireturn, 1)]
set_option maxRecDepth 100000 in
theorem dtX7_readPoints : allD cX7_readPoints tbX7_readPoints = true := by decide +kernel
theorem dX7_readPoints_0 : decode cX7_readPoints 0 = .ok (.aload_n 0, 1) := allD_get dtX7_readPoints 0 rfl
theorem dX7_readPoints_1 : decode cX7_readPoints 1 = .ok (.getfield 19, 3) := allD_get dtX7_readPoints 1 rfl
theorem dX7_readPoints_4 : decode cX7_readPoints 4 = .ok (.aload_n 0, 1) := allD_get dtX7_readPoints 2 rfl
theorem dX7_readPoints_5 : decode cX7_readPoints 5 = .ok (.getfield 33, 3) := allD_get dtX7_readPoints 3 rfl
theorem dX7_readPoints_8 : decode cX7_readPoints 8 = .ok (.invokevirtual 89, 3) := allD_get dtX7_readPoints 4 rfl
theorem dX7_readPoints_11 : decode cX7_readPoints 11 = .ok (.istore_n 1, 1) := allD_get dtX7_readPoints 5 rfl
theorem dX7_readPoints_12 : decode cX7_readPoints 12 = .ok (.iload_n 1, 1) := allD_get dtX7_readPoints 6 rfl
theorem dX7_readPoints_13 : decode cX7_readPoints 13 = .ok (.iconst (-1), 1) := allD_get dtX7_readPoints 7 rfl
theorem dX7_readPoints_14 : decode cX7_readPoints 14 = .ok (.if_icmp .eq 8, 3) := allD_get dtX7_readPoints 8 rfl
theorem dX7_readPoints_17 : decode cX7_readPoints 17 = .ok (.bipush (-100), 2) := allD_get dtX7_readPoints 9 rfl
theorem dX7_readPoints_19 : decode cX7_readPoints 19 = .ok (.iload_n 1, 1) := allD_get dtX7_readPoints 10 rfl
theorem dX7_readPoints_20 : decode cX7_readPoints 20 = .ok (.isub, 1) := allD_get dtX7_readPoints 11 rfl
theorem dX7_readPoints_21 : decode cX7_readPoints 21 = .ok (.ireturn, 1) := allD_get dtX7_readPoints 12 rfl
theorem dX7_readPoints_22 : decode cX7_readPoints 22 = .ok (.aload_n 0, 1) := allD_get dtX7_readPoints 13 rfl
theorem dX7_readPoints_23 : decode cX7_readPoints 23 = .ok (.getfield 12, 3) := allD_get dtX7_readPoints 14 rfl
theorem dX7_readPoints_26 : decode cX7_readPoints 26 = .ok (.aload_n 0, 1) := allD_get dtX7_readPoints 15 rfl
theorem dX7_readPoints_27 : decode cX7_readPoints 27 = .ok (.getfield 33, 3) := allD_get dtX7_readPoints 16 rfl
theorem dX7_readPoints_30 : decode cX7_readPoints 30 = .ok (.invokevirtual 93, 3) := allD_get dtX7_readPoints 17 rfl
theorem dX7_readPoints_33 : decode cX7_readPoints 33 = .ok (.aload_n 0, 1) := allD_get dtX7_readPoints 18 rfl
theorem dX7_readPoints_34 : decode cX7_readPoints 34 = .ok (.getfield 12, 3) := allD_get dtX7_readPoints 19 rfl
theorem dX7_readPoints_37 : decode cX7_readPoints 37 = .ok (.getfield 72, 3) := allD_get dtX7_readPoints 20 rfl
theorem dX7_readPoints_40 : decode cX7_readPoints 40 = .ok (.ireturn, 1) := allD_get dtX7_readPoints 21 rfl
def tbX7_draw : List (Nat × Instr × Nat) := [(0, .iload_n 1, 1), (1, .invokestatic 97, 3), (4, .ifCond .ne 6, 3), (7, .bipush (-2), 2), (9, .ireturn, 1), (10, .aload_n 0, 1), (11, .getfield 12, 3), (14, .getfield 72, 3), (17, .ifCond .ne 6, 3), (20, .bipush (-4), 2), (22, .ireturn, 1), (23, .aload_n 0, 1), (24, .getfield 26, 3), (27, .iload_n 1, 1), (28, .aload_n 0, 1), (29, .getfield 12, 3), (32, .invokevirtual 100, 3), (35, .ifCond .ne 6, 3), (38, .bipush (-3), 2), (40, .ireturn, 1), (41, .aload_n 0, 1), (42, .getfield 12, 3), (45, .invokevirtual 79, 3), (48, .aload_n 0, 1), (49, .getfield 39, 3), (52, .aload_n 0, 1), (53, .getfield 26, 3), (56, .invokevirtual 103, 3), (59, .aload_n 0, 1), (60, .getfield 26, 3), (63, .getfield 107, 3), (66, .iconst 1, 1), (67, .isub, 1), (68, .ireturn, 1)]
set_option maxRecDepth 100000 in
theorem dtX7_draw : allD cX7_draw tbX7_draw = true := by decide +kernel
theorem dX7_draw_0 : decode cX7_draw 0 = .ok (.iload_n 1, 1) := allD_get dtX7_draw 0 rfl
theorem dX7_draw_1 : decode cX7_draw 1 = .ok (.invokestatic 97, 3) := allD_get dtX7_draw 1 rfl
theorem dX7_draw_4 : decode cX7_draw 4 = .ok (.ifCond .ne 6, 3) := allD_get dtX7_draw 2 rfl
theorem dX7_draw_7 : decode cX7_draw 7 = .ok (.bipush (-2), 2) := allD_get dtX7_draw 3 rfl
theorem dX7_draw_9 : decode cX7_draw 9 = .ok (.ireturn, 1) := allD_get dtX7_draw 4 rfl
theorem dX7_draw_10 : decode cX7_draw 10 = .ok (.aload_n 0, 1) := allD_get dtX7_draw 5 rfl
theorem dX7_draw_11 : decode cX7_draw 11 = .ok (.getfield 12, 3) := allD_get dtX7_draw 6 rfl
theorem dX7_draw_14 : decode cX7_draw 14 = .ok (.getfield 72, 3) := allD_get dtX7_draw 7 rfl
theorem dX7_draw_17 : decode cX7_draw 17 = .ok (.ifCond .ne 6, 3) := allD_get dtX7_draw 8 rfl
theorem dX7_draw_20 : decode cX7_draw 20 = .ok (.bipush (-4), 2) := allD_get dtX7_draw 9 rfl
theorem dX7_draw_22 : decode cX7_draw 22 = .ok (.ireturn, 1) := allD_get dtX7_draw 10 rfl
theorem dX7_draw_23 : decode cX7_draw 23 = .ok (.aload_n 0, 1) := allD_get dtX7_draw 11 rfl
theorem dX7_draw_24 : decode cX7_draw 24 = .ok (.getfield 26, 3) := allD_get dtX7_draw 12 rfl
theorem dX7_draw_27 : decode cX7_draw 27 = .ok (.iload_n 1, 1) := allD_get dtX7_draw 13 rfl
theorem dX7_draw_28 : decode cX7_draw 28 = .ok (.aload_n 0, 1) := allD_get dtX7_draw 14 rfl
theorem dX7_draw_29 : decode cX7_draw 29 = .ok (.getfield 12, 3) := allD_get dtX7_draw 15 rfl
theorem dX7_draw_32 : decode cX7_draw 32 = .ok (.invokevirtual 100, 3) := allD_get dtX7_draw 16 rfl
theorem dX7_draw_35 : decode cX7_draw 35 = .ok (.ifCond .ne 6, 3) := allD_get dtX7_draw 17 rfl
theorem dX7_draw_38 : decode cX7_draw 38 = .ok (.bipush (-3), 2) := allD_get dtX7_draw 18 rfl
theorem dX7_draw_40 : decode cX7_draw 40 = .ok (.ireturn, 1) := allD_get dtX7_draw 19 rfl
theorem dX7_draw_41 : decode cX7_draw 41 = .ok (.aload_n 0, 1) := allD_get dtX7_draw 20 rfl
theorem dX7_draw_42 : decode cX7_draw 42 = .ok (.getfield 12, 3) := allD_get dtX7_draw 21 rfl
theorem dX7_draw_45 : decode cX7_draw 45 = .ok (.invokevirtual 79, 3) := allD_get dtX7_draw 22 rfl
theorem dX7_draw_48 : decode cX7_draw 48 = .ok (.aload_n 0, 1) := allD_get dtX7_draw 23 rfl
theorem dX7_draw_49 : decode cX7_draw 49 = .ok (.getfield 39, 3) := allD_get dtX7_draw 24 rfl
theorem dX7_draw_52 : decode cX7_draw 52 = .ok (.aload_n 0, 1) := allD_get dtX7_draw 25 rfl
theorem dX7_draw_53 : decode cX7_draw 53 = .ok (.getfield 26, 3) := allD_get dtX7_draw 26 rfl
theorem dX7_draw_56 : decode cX7_draw 56 = .ok (.invokevirtual 103, 3) := allD_get dtX7_draw 27 rfl
theorem dX7_draw_59 : decode cX7_draw 59 = .ok (.aload_n 0, 1) := allD_get dtX7_draw 28 rfl
theorem dX7_draw_60 : decode cX7_draw 60 = .ok (.getfield 26, 3) := allD_get dtX7_draw 29 rfl
theorem dX7_draw_63 : decode cX7_draw 63 = .ok (.getfield 107, 3) := allD_get dtX7_draw 30 rfl
theorem dX7_draw_66 : decode cX7_draw 66 = .ok (.iconst 1, 1) := allD_get dtX7_draw 31 rfl
theorem dX7_draw_67 : decode cX7_draw 67 = .ok (.isub, 1) := allD_get dtX7_draw 32 rfl
theorem dX7_draw_68 : decode cX7_draw 68 = .ok (.ireturn, 1) := allD_get dtX7_draw 33 rfl
def tbX7_rub : List (Nat × Instr × Nat) := [(0, .iload_n 1, 1), (1, .invokestatic 68, 3), (4, .ifCond .eq 21, 3), (7, .iload_n 2, 1), (8, .invokestatic 68, 3), (11, .ifCond .eq 14, 3), (14, .iload_n 3, 1), (15, .iconst 0, 1), (16, .sipush 500, 3), (19, .invokestatic 110, 3), (22, .ifCond .ne 6, 3), (25, .bipush (-2), 2), (27, .ireturn, 1), (28, .aload_n 0, 1), (29, .getfield 30, 3), (32, .invokevirtual 114, 3), (35, .iconst 1, 1), (36, .istore 4, 2), (38, .iconst 0, 1), (39, .istore 5, 2), (41, .iconst 0, 1), (42, .istore 6, 2), (44, .iload 6, 2), (46, .aload_n 0, 1), (47, .getfield 26, 3), (50, .getfield 107, 3), (53, .if_icmp .ge 155, 3), (56, .aload_n 0, 1), (57, .getfield 33, 3), (60, .invokevirtual 79, 3), (63, .iconst 0, 1), (64, .istore 7, 2), (66, .iload 7, 2), (68, .aload_n 0, 1), (69, .getfield 26, 3), (72, .iload 6, 2), (74, .invokevirtual 115, 3), (77, .if_icmp .ge 97, 3), (80, .aload_n 0, 1), (81, .getfield 26, 3), (84, .iload 6, 2), (86, .iload 7, 2), (88, .invokevirtual 118, 3), (91, .istore 8, 2), (93, .aload_n 0, 1), (94, .getfield 26, 3), (97, .iload 6, 2), (99, .iload 7, 2), (101, .invokevirtual 122, 3), (104, .istore 9, 2), (106, .iload 8, 2), (108, .iload_n 1, 1), (109, .isub, 1), (110, .iload 9, 2), (112, .iload_n 2, 1), (113, .isub, 1), (114, .invokestatic 125, 3), (117, .iload_n 3, 1), (118, .iload_n 3, 1), (119, .imul, 1), (120, .if_icmp .gt 37, 3), (123, .iinc 5 1, 3), (126, .aload_n 0, 1), (127, .aload_n 0, 1), (128, .getfield 26, 3), (131, .iload 6, 2), (133, .invokevirtual 128, 3), (136, .invokevirtual 131, 3), (139, .ifCond .eq 12, 3), (142, .iload 4, 2), (144, .ifCond .eq 7, 3), (147, .iconst 1, 1), (148, .goto 4, 3), (151, .iconst 0, 1), (152, .istore 4, 2), (154, .goto 14, 3), (157, .aload_n 0, 1), (158, .getfield 33, 3), (161, .iload 8, 2), (163, .iload 9, 2), (165, .invokevirtual 75, 3), (168, .iinc 7 1, 3), (171, .goto (-105), 3), (174, .aload_n 0, 1), (175, .aload_n 0, 1), (176, .getfield 26, 3), (179, .iload 6, 2), (181, .invokevirtual 128, 3), (184, .invokevirtual 131, 3), (187, .ifCond .eq 12, 3), (190, .iload 4, 2), (192, .ifCond .eq 7, 3), (195, .iconst 1, 1), (196, .goto 4, 3), (199, .iconst 0, 1), (200, .istore 4, 2), (202, .iinc 6 1, 3), (205, .goto (-161), 3), (208, .iload 4, 2), (210, .ifCond .ne 6, 3), (213, .bipush (-3), 2), (215, .ireturn, 1), (216, .iload 5, 2), (218, .ifCond .ne 6, 3), (221, .bipush (-5), 2), (223, .ireturn, 1), (224, .aload_n 0, 1), (225, .getfield 26, 3), (228, .aload_n 0, 1), (229, .getfield 30, 3), (232, .invokevirtual 134, 3), (235, .aload_n 0, 1), (236, .getfield 39, 3), (239, .aload_n 0, 1), (240, .getfield 26, 3), (243, .invokevirtual 103, 3), (246, .iload 5, 2), (248, .ireturn, 1)]
set_option maxRecDepth 100000 in
theorem dtX7_rub : allD cX7_rub tbX7_rub = true := by decide +kernel
theorem dX7_rub_0 : decode cX7_rub 0 = .ok (.iload_n 1, 1) := allD_get dtX7_rub 0 rfl
theorem dX7_rub_1 : decode cX7_rub 1 = .ok (.invokestatic 68, 3) := allD_get dtX7_rub 1 rfl
theorem dX7_rub_4 : decode cX7_rub 4 = .ok (.ifCond .eq 21, 3) := allD_get dtX7_rub 2 rfl
theorem dX7_rub_7 : decode cX7_rub 7 = .ok (.iload_n 2, 1) := allD_get dtX7_rub 3 rfl
theorem dX7_rub_8 : decode cX7_rub 8 = .ok (.invokestatic 68, 3) := allD_get dtX7_rub 4 rfl
theorem dX7_rub_11 : decode cX7_rub 11 = .ok (.ifCond .eq 14, 3) := allD_get dtX7_rub 5 rfl
theorem dX7_rub_14 : decode cX7_rub 14 = .ok (.iload_n 3, 1) := allD_get dtX7_rub 6 rfl
theorem dX7_rub_15 : decode cX7_rub 15 = .ok (.iconst 0, 1) := allD_get dtX7_rub 7 rfl
theorem dX7_rub_16 : decode cX7_rub 16 = .ok (.sipush 500, 3) := allD_get dtX7_rub 8 rfl
theorem dX7_rub_19 : decode cX7_rub 19 = .ok (.invokestatic 110, 3) := allD_get dtX7_rub 9 rfl
theorem dX7_rub_22 : decode cX7_rub 22 = .ok (.ifCond .ne 6, 3) := allD_get dtX7_rub 10 rfl
theorem dX7_rub_25 : decode cX7_rub 25 = .ok (.bipush (-2), 2) := allD_get dtX7_rub 11 rfl
theorem dX7_rub_27 : decode cX7_rub 27 = .ok (.ireturn, 1) := allD_get dtX7_rub 12 rfl
theorem dX7_rub_28 : decode cX7_rub 28 = .ok (.aload_n 0, 1) := allD_get dtX7_rub 13 rfl
theorem dX7_rub_29 : decode cX7_rub 29 = .ok (.getfield 30, 3) := allD_get dtX7_rub 14 rfl
theorem dX7_rub_32 : decode cX7_rub 32 = .ok (.invokevirtual 114, 3) := allD_get dtX7_rub 15 rfl
theorem dX7_rub_35 : decode cX7_rub 35 = .ok (.iconst 1, 1) := allD_get dtX7_rub 16 rfl
theorem dX7_rub_36 : decode cX7_rub 36 = .ok (.istore 4, 2) := allD_get dtX7_rub 17 rfl
theorem dX7_rub_38 : decode cX7_rub 38 = .ok (.iconst 0, 1) := allD_get dtX7_rub 18 rfl
theorem dX7_rub_39 : decode cX7_rub 39 = .ok (.istore 5, 2) := allD_get dtX7_rub 19 rfl
theorem dX7_rub_41 : decode cX7_rub 41 = .ok (.iconst 0, 1) := allD_get dtX7_rub 20 rfl
theorem dX7_rub_42 : decode cX7_rub 42 = .ok (.istore 6, 2) := allD_get dtX7_rub 21 rfl
theorem dX7_rub_44 : decode cX7_rub 44 = .ok (.iload 6, 2) := allD_get dtX7_rub 22 rfl
theorem dX7_rub_46 : decode cX7_rub 46 = .ok (.aload_n 0, 1) := allD_get dtX7_rub 23 rfl
theorem dX7_rub_47 : decode cX7_rub 47 = .ok (.getfield 26, 3) := allD_get dtX7_rub 24 rfl
theorem dX7_rub_50 : decode cX7_rub 50 = .ok (.getfield 107, 3) := allD_get dtX7_rub 25 rfl
theorem dX7_rub_53 : decode cX7_rub 53 = .ok (.if_icmp .ge 155, 3) := allD_get dtX7_rub 26 rfl
theorem dX7_rub_56 : decode cX7_rub 56 = .ok (.aload_n 0, 1) := allD_get dtX7_rub 27 rfl
theorem dX7_rub_57 : decode cX7_rub 57 = .ok (.getfield 33, 3) := allD_get dtX7_rub 28 rfl
theorem dX7_rub_60 : decode cX7_rub 60 = .ok (.invokevirtual 79, 3) := allD_get dtX7_rub 29 rfl
theorem dX7_rub_63 : decode cX7_rub 63 = .ok (.iconst 0, 1) := allD_get dtX7_rub 30 rfl
theorem dX7_rub_64 : decode cX7_rub 64 = .ok (.istore 7, 2) := allD_get dtX7_rub 31 rfl
theorem dX7_rub_66 : decode cX7_rub 66 = .ok (.iload 7, 2) := allD_get dtX7_rub 32 rfl
theorem dX7_rub_68 : decode cX7_rub 68 = .ok (.aload_n 0, 1) := allD_get dtX7_rub 33 rfl
theorem dX7_rub_69 : decode cX7_rub 69 = .ok (.getfield 26, 3) := allD_get dtX7_rub 34 rfl
theorem dX7_rub_72 : decode cX7_rub 72 = .ok (.iload 6, 2) := allD_get dtX7_rub 35 rfl
theorem dX7_rub_74 : decode cX7_rub 74 = .ok (.invokevirtual 115, 3) := allD_get dtX7_rub 36 rfl
theorem dX7_rub_77 : decode cX7_rub 77 = .ok (.if_icmp .ge 97, 3) := allD_get dtX7_rub 37 rfl
theorem dX7_rub_80 : decode cX7_rub 80 = .ok (.aload_n 0, 1) := allD_get dtX7_rub 38 rfl
theorem dX7_rub_81 : decode cX7_rub 81 = .ok (.getfield 26, 3) := allD_get dtX7_rub 39 rfl
theorem dX7_rub_84 : decode cX7_rub 84 = .ok (.iload 6, 2) := allD_get dtX7_rub 40 rfl
theorem dX7_rub_86 : decode cX7_rub 86 = .ok (.iload 7, 2) := allD_get dtX7_rub 41 rfl
theorem dX7_rub_88 : decode cX7_rub 88 = .ok (.invokevirtual 118, 3) := allD_get dtX7_rub 42 rfl
theorem dX7_rub_91 : decode cX7_rub 91 = .ok (.istore 8, 2) := allD_get dtX7_rub 43 rfl
theorem dX7_rub_93 : decode cX7_rub 93 = .ok (.aload_n 0, 1) := allD_get dtX7_rub 44 rfl
theorem dX7_rub_94 : decode cX7_rub 94 = .ok (.getfield 26, 3) := allD_get dtX7_rub 45 rfl
theorem dX7_rub_97 : decode cX7_rub 97 = .ok (.iload 6, 2) := allD_get dtX7_rub 46 rfl
theorem dX7_rub_99 : decode cX7_rub 99 = .ok (.iload 7, 2) := allD_get dtX7_rub 47 rfl
theorem dX7_rub_101 : decode cX7_rub 101 = .ok (.invokevirtual 122, 3) := allD_get dtX7_rub 48 rfl
theorem dX7_rub_104 : decode cX7_rub 104 = .ok (.istore 9, 2) := allD_get dtX7_rub 49 rfl
theorem dX7_rub_106 : decode cX7_rub 106 = .ok (.iload 8, 2) := allD_get dtX7_rub 50 rfl
theorem dX7_rub_108 : decode cX7_rub 108 = .ok (.iload_n 1, 1) := allD_get dtX7_rub 51 rfl
theorem dX7_rub_109 : decode cX7_rub 109 = .ok (.isub, 1) := allD_get dtX7_rub 52 rfl
theorem dX7_rub_110 : decode cX7_rub 110 = .ok (.iload 9, 2) := allD_get dtX7_rub 53 rfl
theorem dX7_rub_112 : decode cX7_rub 112 = .ok (.iload_n 2, 1) := allD_get dtX7_rub 54 rfl
theorem dX7_rub_113 : decode cX7_rub 113 = .ok (.isub, 1) := allD_get dtX7_rub 55 rfl
theorem dX7_rub_114 : decode cX7_rub 114 = .ok (.invokestatic 125, 3) := allD_get dtX7_rub 56 rfl
theorem dX7_rub_117 : decode cX7_rub 117 = .ok (.iload_n 3, 1) := allD_get dtX7_rub 57 rfl
theorem dX7_rub_118 : decode cX7_rub 118 = .ok (.iload_n 3, 1) := allD_get dtX7_rub 58 rfl
theorem dX7_rub_119 : decode cX7_rub 119 = .ok (.imul, 1) := allD_get dtX7_rub 59 rfl
theorem dX7_rub_120 : decode cX7_rub 120 = .ok (.if_icmp .gt 37, 3) := allD_get dtX7_rub 60 rfl
theorem dX7_rub_123 : decode cX7_rub 123 = .ok (.iinc 5 1, 3) := allD_get dtX7_rub 61 rfl
theorem dX7_rub_126 : decode cX7_rub 126 = .ok (.aload_n 0, 1) := allD_get dtX7_rub 62 rfl
theorem dX7_rub_127 : decode cX7_rub 127 = .ok (.aload_n 0, 1) := allD_get dtX7_rub 63 rfl
theorem dX7_rub_128 : decode cX7_rub 128 = .ok (.getfield 26, 3) := allD_get dtX7_rub 64 rfl
theorem dX7_rub_131 : decode cX7_rub 131 = .ok (.iload 6, 2) := allD_get dtX7_rub 65 rfl
theorem dX7_rub_133 : decode cX7_rub 133 = .ok (.invokevirtual 128, 3) := allD_get dtX7_rub 66 rfl
theorem dX7_rub_136 : decode cX7_rub 136 = .ok (.invokevirtual 131, 3) := allD_get dtX7_rub 67 rfl
theorem dX7_rub_139 : decode cX7_rub 139 = .ok (.ifCond .eq 12, 3) := allD_get dtX7_rub 68 rfl
theorem dX7_rub_142 : decode cX7_rub 142 = .ok (.iload 4, 2) := allD_get dtX7_rub 69 rfl
theorem dX7_rub_144 : decode cX7_rub 144 = .ok (.ifCond .eq 7, 3) := allD_get dtX7_rub 70 rfl
theorem dX7_rub_147 : decode cX7_rub 147 = .ok (.iconst 1, 1) := allD_get dtX7_rub 71 rfl
theorem dX7_rub_148 : decode cX7_rub 148 = .ok (.goto 4, 3) := allD_get dtX7_rub 72 rfl
theorem dX7_rub_151 : decode cX7_rub 151 = .ok (.iconst 0, 1) := allD_get dtX7_rub 73 rfl
theorem dX7_rub_152 : decode cX7_rub 152 = .ok (.istore 4, 2) := allD_get dtX7_rub 74 rfl
theorem dX7_rub_154 : decode cX7_rub 154 = .ok (.goto 14, 3) := allD_get dtX7_rub 75 rfl
theorem dX7_rub_157 : decode cX7_rub 157 = .ok (.aload_n 0, 1) := allD_get dtX7_rub 76 rfl
theorem dX7_rub_158 : decode cX7_rub 158 = .ok (.getfield 33, 3) := allD_get dtX7_rub 77 rfl
theorem dX7_rub_161 : decode cX7_rub 161 = .ok (.iload 8, 2) := allD_get dtX7_rub 78 rfl
theorem dX7_rub_163 : decode cX7_rub 163 = .ok (.iload 9, 2) := allD_get dtX7_rub 79 rfl
theorem dX7_rub_165 : decode cX7_rub 165 = .ok (.invokevirtual 75, 3) := allD_get dtX7_rub 80 rfl
theorem dX7_rub_168 : decode cX7_rub 168 = .ok (.iinc 7 1, 3) := allD_get dtX7_rub 81 rfl
theorem dX7_rub_171 : decode cX7_rub 171 = .ok (.goto (-105), 3) := allD_get dtX7_rub 82 rfl
theorem dX7_rub_174 : decode cX7_rub 174 = .ok (.aload_n 0, 1) := allD_get dtX7_rub 83 rfl
theorem dX7_rub_175 : decode cX7_rub 175 = .ok (.aload_n 0, 1) := allD_get dtX7_rub 84 rfl
theorem dX7_rub_176 : decode cX7_rub 176 = .ok (.getfield 26, 3) := allD_get dtX7_rub 85 rfl
theorem dX7_rub_179 : decode cX7_rub 179 = .ok (.iload 6, 2) := allD_get dtX7_rub 86 rfl
theorem dX7_rub_181 : decode cX7_rub 181 = .ok (.invokevirtual 128, 3) := allD_get dtX7_rub 87 rfl
theorem dX7_rub_184 : decode cX7_rub 184 = .ok (.invokevirtual 131, 3) := allD_get dtX7_rub 88 rfl
theorem dX7_rub_187 : decode cX7_rub 187 = .ok (.ifCond .eq 12, 3) := allD_get dtX7_rub 89 rfl
theorem dX7_rub_190 : decode cX7_rub 190 = .ok (.iload 4, 2) := allD_get dtX7_rub 90 rfl
theorem dX7_rub_192 : decode cX7_rub 192 = .ok (.ifCond .eq 7, 3) := allD_get dtX7_rub 91 rfl
theorem dX7_rub_195 : decode cX7_rub 195 = .ok (.iconst 1, 1) := allD_get dtX7_rub 92 rfl
theorem dX7_rub_196 : decode cX7_rub 196 = .ok (.goto 4, 3) := allD_get dtX7_rub 93 rfl
theorem dX7_rub_199 : decode cX7_rub 199 = .ok (.iconst 0, 1) := allD_get dtX7_rub 94 rfl
theorem dX7_rub_200 : decode cX7_rub 200 = .ok (.istore 4, 2) := allD_get dtX7_rub 95 rfl
theorem dX7_rub_202 : decode cX7_rub 202 = .ok (.iinc 6 1, 3) := allD_get dtX7_rub 96 rfl
theorem dX7_rub_205 : decode cX7_rub 205 = .ok (.goto (-161), 3) := allD_get dtX7_rub 97 rfl
theorem dX7_rub_208 : decode cX7_rub 208 = .ok (.iload 4, 2) := allD_get dtX7_rub 98 rfl
theorem dX7_rub_210 : decode cX7_rub 210 = .ok (.ifCond .ne 6, 3) := allD_get dtX7_rub 99 rfl
theorem dX7_rub_213 : decode cX7_rub 213 = .ok (.bipush (-3), 2) := allD_get dtX7_rub 100 rfl
theorem dX7_rub_215 : decode cX7_rub 215 = .ok (.ireturn, 1) := allD_get dtX7_rub 101 rfl
theorem dX7_rub_216 : decode cX7_rub 216 = .ok (.iload 5, 2) := allD_get dtX7_rub 102 rfl
theorem dX7_rub_218 : decode cX7_rub 218 = .ok (.ifCond .ne 6, 3) := allD_get dtX7_rub 103 rfl
theorem dX7_rub_221 : decode cX7_rub 221 = .ok (.bipush (-5), 2) := allD_get dtX7_rub 104 rfl
theorem dX7_rub_223 : decode cX7_rub 223 = .ok (.ireturn, 1) := allD_get dtX7_rub 105 rfl
theorem dX7_rub_224 : decode cX7_rub 224 = .ok (.aload_n 0, 1) := allD_get dtX7_rub 106 rfl
theorem dX7_rub_225 : decode cX7_rub 225 = .ok (.getfield 26, 3) := allD_get dtX7_rub 107 rfl
theorem dX7_rub_228 : decode cX7_rub 228 = .ok (.aload_n 0, 1) := allD_get dtX7_rub 108 rfl
theorem dX7_rub_229 : decode cX7_rub 229 = .ok (.getfield 30, 3) := allD_get dtX7_rub 109 rfl
theorem dX7_rub_232 : decode cX7_rub 232 = .ok (.invokevirtual 134, 3) := allD_get dtX7_rub 110 rfl
theorem dX7_rub_235 : decode cX7_rub 235 = .ok (.aload_n 0, 1) := allD_get dtX7_rub 111 rfl
theorem dX7_rub_236 : decode cX7_rub 236 = .ok (.getfield 39, 3) := allD_get dtX7_rub 112 rfl
theorem dX7_rub_239 : decode cX7_rub 239 = .ok (.aload_n 0, 1) := allD_get dtX7_rub 113 rfl
theorem dX7_rub_240 : decode cX7_rub 240 = .ok (.getfield 26, 3) := allD_get dtX7_rub 114 rfl
theorem dX7_rub_243 : decode cX7_rub 243 = .ok (.invokevirtual 103, 3) := allD_get dtX7_rub 115 rfl
theorem dX7_rub_246 : decode cX7_rub 246 = .ok (.iload 5, 2) := allD_get dtX7_rub 116 rfl
theorem dX7_rub_248 : decode cX7_rub 248 = .ok (.ireturn, 1) := allD_get dtX7_rub 117 rfl
def tbX7_smooth : List (Nat × Instr × Nat) := [(0, .aload_n 0, 1), (1, .getfield 26, 3), (4, .iload_n 1, 1), (5, .invokevirtual 136, 3), (8, .ifCond .ne 5, 3), (11, .iconst (-1), 1), (12, .ireturn, 1), (13, .iload_n 2, 1), (14, .iconst 1, 1), (15, .bipush 8, 2), (17, .invokestatic 110, 3), (20, .ifCond .ne 6, 3), (23, .bipush (-2), 2), (25, .ireturn, 1), (26, .aload_n 0, 1), (27, .getfield 33, 3), (30, .aload_n 0, 1), (31, .getfield 26, 3), (34, .iload_n 1, 1), (35, .invokevirtual 139, 3), (38, .iconst 0, 1), (39, .istore_n 3, 1), (40, .iload_n 3, 1), (41, .iload_n 2, 1), (42, .if_icmp .ge 16, 3), (45, .aload_n 0, 1), (46, .getfield 33, 3), (49, .invokevirtual 143, 3), (52, .iinc 3 1, 3), (55, .goto (-15), 3), (58, .aload_n 0, 1), (59, .getfield 33, 3), (62, .invokevirtual 146, 3), (65, .aload_n 0, 1), (66, .iload_n 1, 1), (67, .invokevirtual 149, 3), (70, .ireturn, 1)]
set_option maxRecDepth 100000 in
theorem dtX7_smooth : allD cX7_smooth tbX7_smooth = true := by decide +kernel
theorem dX7_smooth_0 : decode cX7_smooth 0 = .ok (.aload_n 0, 1) := allD_get dtX7_smooth 0 rfl
theorem dX7_smooth_1 : decode cX7_smooth 1 = .ok (.getfield 26, 3) := allD_get dtX7_smooth 1 rfl
theorem dX7_smooth_4 : decode cX7_smooth 4 = .ok (.iload_n 1, 1) := allD_get dtX7_smooth 2 rfl
theorem dX7_smooth_5 : decode cX7_smooth 5 = .ok (.invokevirtual 136, 3) := allD_get dtX7_smooth 3 rfl
theorem dX7_smooth_8 : decode cX7_smooth 8 = .ok (.ifCond .ne 5, 3) := allD_get dtX7_smooth 4 rfl
theorem dX7_smooth_11 : decode cX7_smooth 11 = .ok (.iconst (-1), 1) := allD_get dtX7_smooth 5 rfl
theorem dX7_smooth_12 : decode cX7_smooth 12 = .ok (.ireturn, 1) := allD_get dtX7_smooth 6 rfl
theorem dX7_smooth_13 : decode cX7_smooth 13 = .ok (.iload_n 2, 1) := allD_get dtX7_smooth 7 rfl
theorem dX7_smooth_14 : decode cX7_smooth 14 = .ok (.iconst 1, 1) := allD_get dtX7_smooth 8 rfl
theorem dX7_smooth_15 : decode cX7_smooth 15 = .ok (.bipush 8, 2) := allD_get dtX7_smooth 9 rfl
theorem dX7_smooth_17 : decode cX7_smooth 17 = .ok (.invokestatic 110, 3) := allD_get dtX7_smooth 10 rfl
theorem dX7_smooth_20 : decode cX7_smooth 20 = .ok (.ifCond .ne 6, 3) := allD_get dtX7_smooth 11 rfl
theorem dX7_smooth_23 : decode cX7_smooth 23 = .ok (.bipush (-2), 2) := allD_get dtX7_smooth 12 rfl
theorem dX7_smooth_25 : decode cX7_smooth 25 = .ok (.ireturn, 1) := allD_get dtX7_smooth 13 rfl
theorem dX7_smooth_26 : decode cX7_smooth 26 = .ok (.aload_n 0, 1) := allD_get dtX7_smooth 14 rfl
theorem dX7_smooth_27 : decode cX7_smooth 27 = .ok (.getfield 33, 3) := allD_get dtX7_smooth 15 rfl
theorem dX7_smooth_30 : decode cX7_smooth 30 = .ok (.aload_n 0, 1) := allD_get dtX7_smooth 16 rfl
theorem dX7_smooth_31 : decode cX7_smooth 31 = .ok (.getfield 26, 3) := allD_get dtX7_smooth 17 rfl
theorem dX7_smooth_34 : decode cX7_smooth 34 = .ok (.iload_n 1, 1) := allD_get dtX7_smooth 18 rfl
theorem dX7_smooth_35 : decode cX7_smooth 35 = .ok (.invokevirtual 139, 3) := allD_get dtX7_smooth 19 rfl
theorem dX7_smooth_38 : decode cX7_smooth 38 = .ok (.iconst 0, 1) := allD_get dtX7_smooth 20 rfl
theorem dX7_smooth_39 : decode cX7_smooth 39 = .ok (.istore_n 3, 1) := allD_get dtX7_smooth 21 rfl
theorem dX7_smooth_40 : decode cX7_smooth 40 = .ok (.iload_n 3, 1) := allD_get dtX7_smooth 22 rfl
theorem dX7_smooth_41 : decode cX7_smooth 41 = .ok (.iload_n 2, 1) := allD_get dtX7_smooth 23 rfl
theorem dX7_smooth_42 : decode cX7_smooth 42 = .ok (.if_icmp .ge 16, 3) := allD_get dtX7_smooth 24 rfl
theorem dX7_smooth_45 : decode cX7_smooth 45 = .ok (.aload_n 0, 1) := allD_get dtX7_smooth 25 rfl
theorem dX7_smooth_46 : decode cX7_smooth 46 = .ok (.getfield 33, 3) := allD_get dtX7_smooth 26 rfl
theorem dX7_smooth_49 : decode cX7_smooth 49 = .ok (.invokevirtual 143, 3) := allD_get dtX7_smooth 27 rfl
theorem dX7_smooth_52 : decode cX7_smooth 52 = .ok (.iinc 3 1, 3) := allD_get dtX7_smooth 28 rfl
theorem dX7_smooth_55 : decode cX7_smooth 55 = .ok (.goto (-15), 3) := allD_get dtX7_smooth 29 rfl
theorem dX7_smooth_58 : decode cX7_smooth 58 = .ok (.aload_n 0, 1) := allD_get dtX7_smooth 30 rfl
theorem dX7_smooth_59 : decode cX7_smooth 59 = .ok (.getfield 33, 3) := allD_get dtX7_smooth 31 rfl
theorem dX7_smooth_62 : decode cX7_smooth 62 = .ok (.invokevirtual 146, 3) := allD_get dtX7_smooth 32 rfl
theorem dX7_smooth_65 : decode cX7_smooth 65 = .ok (.aload_n 0, 1) := allD_get dtX7_smooth 33 rfl
theorem dX7_smooth_66 : decode cX7_smooth 66 = .ok (.iload_n 1, 1) := allD_get dtX7_smooth 34 rfl
theorem dX7_smooth_67 : decode cX7_smooth 67 = .ok (.invokevirtual 149, 3) := allD_get dtX7_smooth 35 rfl
theorem dX7_smooth_70 : decode cX7_smooth 70 = .ok (.ireturn, 1) := allD_get dtX7_smooth 36 rfl
def tbX7_thin : List (Nat × Instr × Nat) := [(0, .aload_n 0, 1), (1, .getfield 26, 3), (4, .iload_n 1, 1), (5, .invokevirtual 136, 3), (8, .ifCond .ne 5, 3), (11, .iconst (-1), 1), (12, .ireturn, 1), (13, .iload_n 2, 1), (14, .iconst 1, 1), (15, .sipush 500, 3), (18, .invokestatic 110, 3), (21, .ifCond .ne 6, 3), (24, .bipush (-2), 2), (26, .ireturn, 1), (27, .aload_n 0, 1), (28, .getfield 33, 3), (31, .aload_n 0, 1), (32, .getfield 26, 3), (35, .iload_n 1, 1), (36, .invokevirtual 139, 3), (39, .aload_n 0, 1), (40, .getfield 33, 3), (43, .iload_n 2, 1), (44, .invokevirtual 152, 3), (47, .aload_n 0, 1), (48, .iload_n 1, 1), (49, .invokevirtual 149, 3), (52, .ireturn, 1)]
set_option maxRecDepth 100000 in
theorem dtX7_thin : allD cX7_thin tbX7_thin = true := by decide +kernel
theorem dX7_thin_0 : decode cX7_thin 0 = .ok (.aload_n 0, 1) := allD_get dtX7_thin 0 rfl
theorem dX7_thin_1 : decode cX7_thin 1 = .ok (.getfield 26, 3) := allD_get dtX7_thin 1 rfl
theorem dX7_thin_4 : decode cX7_thin 4 = .ok (.iload_n 1, 1) := allD_get dtX7_thin 2 rfl
theorem dX7_thin_5 : decode cX7_thin 5 = .ok (.invokevirtual 136, 3) := allD_get dtX7_thin 3 rfl
theorem dX7_thin_8 : decode cX7_thin 8 = .ok (.ifCond .ne 5, 3) := allD_get dtX7_thin 4 rfl
theorem dX7_thin_11 : decode cX7_thin 11 = .ok (.iconst (-1), 1) := allD_get dtX7_thin 5 rfl
theorem dX7_thin_12 : decode cX7_thin 12 = .ok (.ireturn, 1) := allD_get dtX7_thin 6 rfl
theorem dX7_thin_13 : decode cX7_thin 13 = .ok (.iload_n 2, 1) := allD_get dtX7_thin 7 rfl
theorem dX7_thin_14 : decode cX7_thin 14 = .ok (.iconst 1, 1) := allD_get dtX7_thin 8 rfl
theorem dX7_thin_15 : decode cX7_thin 15 = .ok (.sipush 500, 3) := allD_get dtX7_thin 9 rfl
theorem dX7_thin_18 : decode cX7_thin 18 = .ok (.invokestatic 110, 3) := allD_get dtX7_thin 10 rfl
theorem dX7_thin_21 : decode cX7_thin 21 = .ok (.ifCond .ne 6, 3) := allD_get dtX7_thin 11 rfl
theorem dX7_thin_24 : decode cX7_thin 24 = .ok (.bipush (-2), 2) := allD_get dtX7_thin 12 rfl
theorem dX7_thin_26 : decode cX7_thin 26 = .ok (.ireturn, 1) := allD_get dtX7_thin 13 rfl
theorem dX7_thin_27 : decode cX7_thin 27 = .ok (.aload_n 0, 1) := allD_get dtX7_thin 14 rfl
theorem dX7_thin_28 : decode cX7_thin 28 = .ok (.getfield 33, 3) := allD_get dtX7_thin 15 rfl
theorem dX7_thin_31 : decode cX7_thin 31 = .ok (.aload_n 0, 1) := allD_get dtX7_thin 16 rfl
theorem dX7_thin_32 : decode cX7_thin 32 = .ok (.getfield 26, 3) := allD_get dtX7_thin 17 rfl
theorem dX7_thin_35 : decode cX7_thin 35 = .ok (.iload_n 1, 1) := allD_get dtX7_thin 18 rfl
theorem dX7_thin_36 : decode cX7_thin 36 = .ok (.invokevirtual 139, 3) := allD_get dtX7_thin 19 rfl
theorem dX7_thin_39 : decode cX7_thin 39 = .ok (.aload_n 0, 1) := allD_get dtX7_thin 20 rfl
theorem dX7_thin_40 : decode cX7_thin 40 = .ok (.getfield 33, 3) := allD_get dtX7_thin 21 rfl
theorem dX7_thin_43 : decode cX7_thin 43 = .ok (.iload_n 2, 1) := allD_get dtX7_thin 22 rfl
theorem dX7_thin_44 : decode cX7_thin 44 = .ok (.invokevirtual 152, 3) := allD_get dtX7_thin 23 rfl
theorem dX7_thin_47 : decode cX7_thin 47 = .ok (.aload_n 0, 1) := allD_get dtX7_thin 24 rfl
theorem dX7_thin_48 : decode cX7_thin 48 = .ok (.iload_n 1, 1) := allD_get dtX7_thin 25 rfl
theorem dX7_thin_49 : decode cX7_thin 49 = .ok (.invokevirtual 149, 3) := allD_get dtX7_thin 26 rfl
theorem dX7_thin_52 : decode cX7_thin 52 = .ok (.ireturn, 1) := allD_get dtX7_thin 27 rfl
def tbX7_join : List (Nat × Instr × Nat) := [(0, .aload_n 0, 1), (1, .getfield 26, 3), (4, .iload_n 1, 1), (5, .invokevirtual 136, 3), (8, .ifCond .eq 14, 3), (11, .aload_n 0, 1), (12, .getfield 26, 3), (15, .iload_n 2, 1), (16, .invokevirtual 136, 3), (19, .ifCond .ne 5, 3), (22, .iconst (-1), 1), (23, .ireturn, 1), (24, .iload_n 1, 1), (25, .iload_n 2, 1), (26, .if_icmp .ne 6, 3), (29, .bipush (-2), 2), (31, .ireturn, 1), (32, .aload_n 0, 1), (33, .getfield 33, 3), (36, .aload_n 0, 1), (37, .getfield 26, 3), (40, .iload_n 1, 1), (41, .invokevirtual 139, 3), (44, .aload_n 0, 1), (45, .getfield 33, 3), (48, .aload_n 0, 1), (49, .getfield 26, 3), (52, .iload_n 2, 1), (53, .iconst 0, 1), (54, .invokevirtual 118, 3), (57, .aload_n 0, 1), (58, .getfield 26, 3), (61, .iload_n 2, 1), (62, .iconst 0, 1), (63, .invokevirtual 122, 3), (66, .invokevirtual 156, 3), (69, .ifCond .eq 7, 3), (72, .iconst 1, 1), (73, .goto 4, 3), (76, .iconst 0, 1), (77, .istore_n 3, 1), (78, .aload_n 0, 1), (79, .getfield 26, 3), (82, .iload_n 2, 1), (83, .invokevirtual 115, 3), (86, .iload_n 3, 1), (87, .isub, 1), (88, .istore 4, 2), (90, .aload_n 0, 1), (91, .getfield 33, 3), (94, .getfield 72, 3), (97, .iload 4, 2), (99, .iadd, 1), (100, .bipush 24, 2), (102, .if_icmp .le 6, 3), (105, .bipush (-3), 2), (107, .ireturn, 1), (108, .iload_n 3, 1), (109, .istore 5, 2), (111, .iload 5, 2), (113, .aload_n 0, 1), (114, .getfield 26, 3), (117, .iload_n 2, 1), (118, .invokevirtual 115, 3), (121, .if_icmp .ge 36, 3), (124, .aload_n 0, 1), (125, .getfield 33, 3), (128, .aload_n 0, 1), (129, .getfield 26, 3), (132, .iload_n 2, 1), (133, .iload 5, 2), (135, .invokevirtual 118, 3), (138, .aload_n 0, 1), (139, .getfield 26, 3), (142, .iload_n 2, 1), (143, .iload 5, 2), (145, .invokevirtual 122, 3), (148, .invokevirtual 75, 3), (151, .iinc 5 1, 3), (154, .goto (-43), 3), (157, .aload_n 0, 1), (158, .getfield 26, 3), (161, .iload_n 1, 1), (162, .aload_n 0, 1), (163, .getfield 26, 3), (166, .iload_n 1, 1), (167, .invokevirtual 128, 3), (170, .aload_n 0, 1), (171, .getfield 33, 3), (174, .invokevirtual 160, 3), (177, .aload_n 0, 1), (178, .getfield 26, 3), (181, .iload_n 2, 1), (182, .invokevirtual 164, 3), (185, .aload_n 0, 1), (186, .getfield 39, 3), (189, .aload_n 0, 1), (190, .getfield 26, 3), (193, .invokevirtual 103, 3), (196, .iload_n 2, 1), (197, .iload_n 1, 1), (198, .if_icmp .ge 9, 3), (201, .iload_n 1, 1), (202, .iconst 1, 1), (203, .isub, 1), (204, .goto 4, 3), (207, .iload_n 1, 1), (208, .ireturn, 1)]
set_option maxRecDepth 100000 in
theorem dtX7_join : allD cX7_join tbX7_join = true := by decide +kernel
theorem dX7_join_0 : decode cX7_join 0 = .ok (.aload_n 0, 1) := allD_get dtX7_join 0 rfl
theorem dX7_join_1 : decode cX7_join 1 = .ok (.getfield 26, 3) := allD_get dtX7_join 1 rfl
theorem dX7_join_4 : decode cX7_join 4 = .ok (.iload_n 1, 1) := allD_get dtX7_join 2 rfl
theorem dX7_join_5 : decode cX7_join 5 = .ok (.invokevirtual 136, 3) := allD_get dtX7_join 3 rfl
theorem dX7_join_8 : decode cX7_join 8 = .ok (.ifCond .eq 14, 3) := allD_get dtX7_join 4 rfl
theorem dX7_join_11 : decode cX7_join 11 = .ok (.aload_n 0, 1) := allD_get dtX7_join 5 rfl
theorem dX7_join_12 : decode cX7_join 12 = .ok (.getfield 26, 3) := allD_get dtX7_join 6 rfl
theorem dX7_join_15 : decode cX7_join 15 = .ok (.iload_n 2, 1) := allD_get dtX7_join 7 rfl
theorem dX7_join_16 : decode cX7_join 16 = .ok (.invokevirtual 136, 3) := allD_get dtX7_join 8 rfl
theorem dX7_join_19 : decode cX7_join 19 = .ok (.ifCond .ne 5, 3) := allD_get dtX7_join 9 rfl
theorem dX7_join_22 : decode cX7_join 22 = .ok (.iconst (-1), 1) := allD_get dtX7_join 10 rfl
theorem dX7_join_23 : decode cX7_join 23 = .ok (.ireturn, 1) := allD_get dtX7_join 11 rfl
theorem dX7_join_24 : decode cX7_join 24 = .ok (.iload_n 1, 1) := allD_get dtX7_join 12 rfl
theorem dX7_join_25 : decode cX7_join 25 = .ok (.iload_n 2, 1) := allD_get dtX7_join 13 rfl
theorem dX7_join_26 : decode cX7_join 26 = .ok (.if_icmp .ne 6, 3) := allD_get dtX7_join 14 rfl
theorem dX7_join_29 : decode cX7_join 29 = .ok (.bipush (-2), 2) := allD_get dtX7_join 15 rfl
theorem dX7_join_31 : decode cX7_join 31 = .ok (.ireturn, 1) := allD_get dtX7_join 16 rfl
theorem dX7_join_32 : decode cX7_join 32 = .ok (.aload_n 0, 1) := allD_get dtX7_join 17 rfl
theorem dX7_join_33 : decode cX7_join 33 = .ok (.getfield 33, 3) := allD_get dtX7_join 18 rfl
theorem dX7_join_36 : decode cX7_join 36 = .ok (.aload_n 0, 1) := allD_get dtX7_join 19 rfl
theorem dX7_join_37 : decode cX7_join 37 = .ok (.getfield 26, 3) := allD_get dtX7_join 20 rfl
theorem dX7_join_40 : decode cX7_join 40 = .ok (.iload_n 1, 1) := allD_get dtX7_join 21 rfl
theorem dX7_join_41 : decode cX7_join 41 = .ok (.invokevirtual 139, 3) := allD_get dtX7_join 22 rfl
theorem dX7_join_44 : decode cX7_join 44 = .ok (.aload_n 0, 1) := allD_get dtX7_join 23 rfl
theorem dX7_join_45 : decode cX7_join 45 = .ok (.getfield 33, 3) := allD_get dtX7_join 24 rfl
theorem dX7_join_48 : decode cX7_join 48 = .ok (.aload_n 0, 1) := allD_get dtX7_join 25 rfl
theorem dX7_join_49 : decode cX7_join 49 = .ok (.getfield 26, 3) := allD_get dtX7_join 26 rfl
theorem dX7_join_52 : decode cX7_join 52 = .ok (.iload_n 2, 1) := allD_get dtX7_join 27 rfl
theorem dX7_join_53 : decode cX7_join 53 = .ok (.iconst 0, 1) := allD_get dtX7_join 28 rfl
theorem dX7_join_54 : decode cX7_join 54 = .ok (.invokevirtual 118, 3) := allD_get dtX7_join 29 rfl
theorem dX7_join_57 : decode cX7_join 57 = .ok (.aload_n 0, 1) := allD_get dtX7_join 30 rfl
theorem dX7_join_58 : decode cX7_join 58 = .ok (.getfield 26, 3) := allD_get dtX7_join 31 rfl
theorem dX7_join_61 : decode cX7_join 61 = .ok (.iload_n 2, 1) := allD_get dtX7_join 32 rfl
theorem dX7_join_62 : decode cX7_join 62 = .ok (.iconst 0, 1) := allD_get dtX7_join 33 rfl
theorem dX7_join_63 : decode cX7_join 63 = .ok (.invokevirtual 122, 3) := allD_get dtX7_join 34 rfl
theorem dX7_join_66 : decode cX7_join 66 = .ok (.invokevirtual 156, 3) := allD_get dtX7_join 35 rfl
theorem dX7_join_69 : decode cX7_join 69 = .ok (.ifCond .eq 7, 3) := allD_get dtX7_join 36 rfl
theorem dX7_join_72 : decode cX7_join 72 = .ok (.iconst 1, 1) := allD_get dtX7_join 37 rfl
theorem dX7_join_73 : decode cX7_join 73 = .ok (.goto 4, 3) := allD_get dtX7_join 38 rfl
theorem dX7_join_76 : decode cX7_join 76 = .ok (.iconst 0, 1) := allD_get dtX7_join 39 rfl
theorem dX7_join_77 : decode cX7_join 77 = .ok (.istore_n 3, 1) := allD_get dtX7_join 40 rfl
theorem dX7_join_78 : decode cX7_join 78 = .ok (.aload_n 0, 1) := allD_get dtX7_join 41 rfl
theorem dX7_join_79 : decode cX7_join 79 = .ok (.getfield 26, 3) := allD_get dtX7_join 42 rfl
theorem dX7_join_82 : decode cX7_join 82 = .ok (.iload_n 2, 1) := allD_get dtX7_join 43 rfl
theorem dX7_join_83 : decode cX7_join 83 = .ok (.invokevirtual 115, 3) := allD_get dtX7_join 44 rfl
theorem dX7_join_86 : decode cX7_join 86 = .ok (.iload_n 3, 1) := allD_get dtX7_join 45 rfl
theorem dX7_join_87 : decode cX7_join 87 = .ok (.isub, 1) := allD_get dtX7_join 46 rfl
theorem dX7_join_88 : decode cX7_join 88 = .ok (.istore 4, 2) := allD_get dtX7_join 47 rfl
theorem dX7_join_90 : decode cX7_join 90 = .ok (.aload_n 0, 1) := allD_get dtX7_join 48 rfl
theorem dX7_join_91 : decode cX7_join 91 = .ok (.getfield 33, 3) := allD_get dtX7_join 49 rfl
theorem dX7_join_94 : decode cX7_join 94 = .ok (.getfield 72, 3) := allD_get dtX7_join 50 rfl
theorem dX7_join_97 : decode cX7_join 97 = .ok (.iload 4, 2) := allD_get dtX7_join 51 rfl
theorem dX7_join_99 : decode cX7_join 99 = .ok (.iadd, 1) := allD_get dtX7_join 52 rfl
theorem dX7_join_100 : decode cX7_join 100 = .ok (.bipush 24, 2) := allD_get dtX7_join 53 rfl
theorem dX7_join_102 : decode cX7_join 102 = .ok (.if_icmp .le 6, 3) := allD_get dtX7_join 54 rfl
theorem dX7_join_105 : decode cX7_join 105 = .ok (.bipush (-3), 2) := allD_get dtX7_join 55 rfl
theorem dX7_join_107 : decode cX7_join 107 = .ok (.ireturn, 1) := allD_get dtX7_join 56 rfl
theorem dX7_join_108 : decode cX7_join 108 = .ok (.iload_n 3, 1) := allD_get dtX7_join 57 rfl
theorem dX7_join_109 : decode cX7_join 109 = .ok (.istore 5, 2) := allD_get dtX7_join 58 rfl
theorem dX7_join_111 : decode cX7_join 111 = .ok (.iload 5, 2) := allD_get dtX7_join 59 rfl
theorem dX7_join_113 : decode cX7_join 113 = .ok (.aload_n 0, 1) := allD_get dtX7_join 60 rfl
theorem dX7_join_114 : decode cX7_join 114 = .ok (.getfield 26, 3) := allD_get dtX7_join 61 rfl
theorem dX7_join_117 : decode cX7_join 117 = .ok (.iload_n 2, 1) := allD_get dtX7_join 62 rfl
theorem dX7_join_118 : decode cX7_join 118 = .ok (.invokevirtual 115, 3) := allD_get dtX7_join 63 rfl
theorem dX7_join_121 : decode cX7_join 121 = .ok (.if_icmp .ge 36, 3) := allD_get dtX7_join 64 rfl
theorem dX7_join_124 : decode cX7_join 124 = .ok (.aload_n 0, 1) := allD_get dtX7_join 65 rfl
theorem dX7_join_125 : decode cX7_join 125 = .ok (.getfield 33, 3) := allD_get dtX7_join 66 rfl
theorem dX7_join_128 : decode cX7_join 128 = .ok (.aload_n 0, 1) := allD_get dtX7_join 67 rfl
theorem dX7_join_129 : decode cX7_join 129 = .ok (.getfield 26, 3) := allD_get dtX7_join 68 rfl
theorem dX7_join_132 : decode cX7_join 132 = .ok (.iload_n 2, 1) := allD_get dtX7_join 69 rfl
theorem dX7_join_133 : decode cX7_join 133 = .ok (.iload 5, 2) := allD_get dtX7_join 70 rfl
theorem dX7_join_135 : decode cX7_join 135 = .ok (.invokevirtual 118, 3) := allD_get dtX7_join 71 rfl
theorem dX7_join_138 : decode cX7_join 138 = .ok (.aload_n 0, 1) := allD_get dtX7_join 72 rfl
theorem dX7_join_139 : decode cX7_join 139 = .ok (.getfield 26, 3) := allD_get dtX7_join 73 rfl
theorem dX7_join_142 : decode cX7_join 142 = .ok (.iload_n 2, 1) := allD_get dtX7_join 74 rfl
theorem dX7_join_143 : decode cX7_join 143 = .ok (.iload 5, 2) := allD_get dtX7_join 75 rfl
theorem dX7_join_145 : decode cX7_join 145 = .ok (.invokevirtual 122, 3) := allD_get dtX7_join 76 rfl
theorem dX7_join_148 : decode cX7_join 148 = .ok (.invokevirtual 75, 3) := allD_get dtX7_join 77 rfl
theorem dX7_join_151 : decode cX7_join 151 = .ok (.iinc 5 1, 3) := allD_get dtX7_join 78 rfl
theorem dX7_join_154 : decode cX7_join 154 = .ok (.goto (-43), 3) := allD_get dtX7_join 79 rfl
theorem dX7_join_157 : decode cX7_join 157 = .ok (.aload_n 0, 1) := allD_get dtX7_join 80 rfl
theorem dX7_join_158 : decode cX7_join 158 = .ok (.getfield 26, 3) := allD_get dtX7_join 81 rfl
theorem dX7_join_161 : decode cX7_join 161 = .ok (.iload_n 1, 1) := allD_get dtX7_join 82 rfl
theorem dX7_join_162 : decode cX7_join 162 = .ok (.aload_n 0, 1) := allD_get dtX7_join 83 rfl
theorem dX7_join_163 : decode cX7_join 163 = .ok (.getfield 26, 3) := allD_get dtX7_join 84 rfl
theorem dX7_join_166 : decode cX7_join 166 = .ok (.iload_n 1, 1) := allD_get dtX7_join 85 rfl
theorem dX7_join_167 : decode cX7_join 167 = .ok (.invokevirtual 128, 3) := allD_get dtX7_join 86 rfl
theorem dX7_join_170 : decode cX7_join 170 = .ok (.aload_n 0, 1) := allD_get dtX7_join 87 rfl
theorem dX7_join_171 : decode cX7_join 171 = .ok (.getfield 33, 3) := allD_get dtX7_join 88 rfl
theorem dX7_join_174 : decode cX7_join 174 = .ok (.invokevirtual 160, 3) := allD_get dtX7_join 89 rfl
theorem dX7_join_177 : decode cX7_join 177 = .ok (.aload_n 0, 1) := allD_get dtX7_join 90 rfl
theorem dX7_join_178 : decode cX7_join 178 = .ok (.getfield 26, 3) := allD_get dtX7_join 91 rfl
theorem dX7_join_181 : decode cX7_join 181 = .ok (.iload_n 2, 1) := allD_get dtX7_join 92 rfl
theorem dX7_join_182 : decode cX7_join 182 = .ok (.invokevirtual 164, 3) := allD_get dtX7_join 93 rfl
theorem dX7_join_185 : decode cX7_join 185 = .ok (.aload_n 0, 1) := allD_get dtX7_join 94 rfl
theorem dX7_join_186 : decode cX7_join 186 = .ok (.getfield 39, 3) := allD_get dtX7_join 95 rfl
theorem dX7_join_189 : decode cX7_join 189 = .ok (.aload_n 0, 1) := allD_get dtX7_join 96 rfl
theorem dX7_join_190 : decode cX7_join 190 = .ok (.getfield 26, 3) := allD_get dtX7_join 97 rfl
theorem dX7_join_193 : decode cX7_join 193 = .ok (.invokevirtual 103, 3) := allD_get dtX7_join 98 rfl
theorem dX7_join_196 : decode cX7_join 196 = .ok (.iload_n 2, 1) := allD_get dtX7_join 99 rfl
theorem dX7_join_197 : decode cX7_join 197 = .ok (.iload_n 1, 1) := allD_get dtX7_join 100 rfl
theorem dX7_join_198 : decode cX7_join 198 = .ok (.if_icmp .ge 9, 3) := allD_get dtX7_join 101 rfl
theorem dX7_join_201 : decode cX7_join 201 = .ok (.iload_n 1, 1) := allD_get dtX7_join 102 rfl
theorem dX7_join_202 : decode cX7_join 202 = .ok (.iconst 1, 1) := allD_get dtX7_join 103 rfl
theorem dX7_join_203 : decode cX7_join 203 = .ok (.isub, 1) := allD_get dtX7_join 104 rfl
theorem dX7_join_204 : decode cX7_join 204 = .ok (.goto 4, 3) := allD_get dtX7_join 105 rfl
theorem dX7_join_207 : decode cX7_join 207 = .ok (.iload_n 1, 1) := allD_get dtX7_join 106 rfl
theorem dX7_join_208 : decode cX7_join 208 = .ok (.ireturn, 1) := allD_get dtX7_join 107 rfl
def tbX7_shift : List (Nat × Instr × Nat) := [(0, .aload_n 0, 1), (1, .getfield 26, 3), (4, .iload_n 1, 1), (5, .invokevirtual 136, 3), (8, .ifCond .ne 5, 3), (11, .iconst (-1), 1), (12, .ireturn, 1), (13, .iload_n 2, 1), (14, .sipush (-1000), 3), (17, .sipush 1000, 3), (20, .invokestatic 110, 3), (23, .ifCond .eq 16, 3), (26, .iload_n 3, 1), (27, .sipush (-1000), 3), (30, .sipush 1000, 3), (33, .invokestatic 110, 3), (36, .ifCond .ne 6, 3), (39, .bipush (-2), 2), (41, .ireturn, 1), (42, .aload_n 0, 1), (43, .getfield 26, 3), (46, .iload_n 1, 1), (47, .invokevirtual 167, 3), (50, .iload_n 2, 1), (51, .iadd, 1), (52, .invokestatic 68, 3), (55, .ifCond .eq 51, 3), (58, .aload_n 0, 1), (59, .getfield 26, 3), (62, .iload_n 1, 1), (63, .invokevirtual 170, 3), (66, .iload_n 2, 1), (67, .iadd, 1), (68, .invokestatic 68, 3), (71, .ifCond .eq 35, 3), (74, .aload_n 0, 1), (75, .getfield 26, 3), (78, .iload_n 1, 1), (79, .invokevirtual 173, 3), (82, .iload_n 3, 1), (83, .iadd, 1), (84, .invokestatic 68, 3), (87, .ifCond .eq 19, 3), (90, .aload_n 0, 1), (91, .getfield 26, 3), (94, .iload_n 1, 1), (95, .invokevirtual 176, 3), (98, .iload_n 3, 1), (99, .iadd, 1), (100, .invokestatic 68, 3), (103, .ifCond .ne 6, 3), (106, .bipush (-4), 2), (108, .ireturn, 1), (109, .iload_n 2, 1), (110, .ifCond .ne 10, 3), (113, .iload_n 3, 1), (114, .ifCond .ne 6, 3), (117, .bipush (-5), 2), (119, .ireturn, 1), (120, .aload_n 0, 1), (121, .getfield 33, 3), (124, .invokevirtual 79, 3), (127, .iconst 0, 1), (128, .istore 4, 2), (130, .iload 4, 2), (132, .aload_n 0, 1), (133, .getfield 26, 3), (136, .iload_n 1, 1), (137, .invokevirtual 115, 3), (140, .if_icmp .ge 40, 3), (143, .aload_n 0, 1), (144, .getfield 33, 3), (147, .aload_n 0, 1), (148, .getfield 26, 3), (151, .iload_n 1, 1), (152, .iload 4, 2), (154, .invokevirtual 118, 3), (157, .iload_n 2, 1), (158, .iadd, 1), (159, .aload_n 0, 1), (160, .getfield 26, 3), (163, .iload_n 1, 1), (164, .iload 4, 2), (166, .invokevirtual 122, 3), (169, .iload_n 3, 1), (170, .iadd, 1), (171, .invokevirtual 75, 3), (174, .iinc 4 1, 3), (177, .goto (-47), 3), (180, .aload_n 0, 1), (181, .iload_n 1, 1), (182, .invokevirtual 149, 3), (185, .ireturn, 1)]
set_option maxRecDepth 100000 in
theorem dtX7_shift : allD cX7_shift tbX7_shift = true := by decide +kernel
theorem dX7_shift_0 : decode cX7_shift 0 = .ok (.aload_n 0, 1) := allD_get dtX7_shift 0 rfl
theorem dX7_shift_1 : decode cX7_shift 1 = .ok (.getfield 26, 3) := allD_get dtX7_shift 1 rfl
theorem dX7_shift_4 : decode cX7_shift 4 = .ok (.iload_n 1, 1) := allD_get dtX7_shift 2 rfl
theorem dX7_shift_5 : decode cX7_shift 5 = .ok (.invokevirtual 136, 3) := allD_get dtX7_shift 3 rfl
theorem dX7_shift_8 : decode cX7_shift 8 = .ok (.ifCond .ne 5, 3) := allD_get dtX7_shift 4 rfl
theorem dX7_shift_11 : decode cX7_shift 11 = .ok (.iconst (-1), 1) := allD_get dtX7_shift 5 rfl
theorem dX7_shift_12 : decode cX7_shift 12 = .ok (.ireturn, 1) := allD_get dtX7_shift 6 rfl
theorem dX7_shift_13 : decode cX7_shift 13 = .ok (.iload_n 2, 1) := allD_get dtX7_shift 7 rfl
theorem dX7_shift_14 : decode cX7_shift 14 = .ok (.sipush (-1000), 3) := allD_get dtX7_shift 8 rfl
theorem dX7_shift_17 : decode cX7_shift 17 = .ok (.sipush 1000, 3) := allD_get dtX7_shift 9 rfl
theorem dX7_shift_20 : decode cX7_shift 20 = .ok (.invokestatic 110, 3) := allD_get dtX7_shift 10 rfl
theorem dX7_shift_23 : decode cX7_shift 23 = .ok (.ifCond .eq 16, 3) := allD_get dtX7_shift 11 rfl
theorem dX7_shift_26 : decode cX7_shift 26 = .ok (.iload_n 3, 1) := allD_get dtX7_shift 12 rfl
theorem dX7_shift_27 : decode cX7_shift 27 = .ok (.sipush (-1000), 3) := allD_get dtX7_shift 13 rfl
theorem dX7_shift_30 : decode cX7_shift 30 = .ok (.sipush 1000, 3) := allD_get dtX7_shift 14 rfl
theorem dX7_shift_33 : decode cX7_shift 33 = .ok (.invokestatic 110, 3) := allD_get dtX7_shift 15 rfl
theorem dX7_shift_36 : decode cX7_shift 36 = .ok (.ifCond .ne 6, 3) := allD_get dtX7_shift 16 rfl
theorem dX7_shift_39 : decode cX7_shift 39 = .ok (.bipush (-2), 2) := allD_get dtX7_shift 17 rfl
theorem dX7_shift_41 : decode cX7_shift 41 = .ok (.ireturn, 1) := allD_get dtX7_shift 18 rfl
theorem dX7_shift_42 : decode cX7_shift 42 = .ok (.aload_n 0, 1) := allD_get dtX7_shift 19 rfl
theorem dX7_shift_43 : decode cX7_shift 43 = .ok (.getfield 26, 3) := allD_get dtX7_shift 20 rfl
theorem dX7_shift_46 : decode cX7_shift 46 = .ok (.iload_n 1, 1) := allD_get dtX7_shift 21 rfl
theorem dX7_shift_47 : decode cX7_shift 47 = .ok (.invokevirtual 167, 3) := allD_get dtX7_shift 22 rfl
theorem dX7_shift_50 : decode cX7_shift 50 = .ok (.iload_n 2, 1) := allD_get dtX7_shift 23 rfl
theorem dX7_shift_51 : decode cX7_shift 51 = .ok (.iadd, 1) := allD_get dtX7_shift 24 rfl
theorem dX7_shift_52 : decode cX7_shift 52 = .ok (.invokestatic 68, 3) := allD_get dtX7_shift 25 rfl
theorem dX7_shift_55 : decode cX7_shift 55 = .ok (.ifCond .eq 51, 3) := allD_get dtX7_shift 26 rfl
theorem dX7_shift_58 : decode cX7_shift 58 = .ok (.aload_n 0, 1) := allD_get dtX7_shift 27 rfl
theorem dX7_shift_59 : decode cX7_shift 59 = .ok (.getfield 26, 3) := allD_get dtX7_shift 28 rfl
theorem dX7_shift_62 : decode cX7_shift 62 = .ok (.iload_n 1, 1) := allD_get dtX7_shift 29 rfl
theorem dX7_shift_63 : decode cX7_shift 63 = .ok (.invokevirtual 170, 3) := allD_get dtX7_shift 30 rfl
theorem dX7_shift_66 : decode cX7_shift 66 = .ok (.iload_n 2, 1) := allD_get dtX7_shift 31 rfl
theorem dX7_shift_67 : decode cX7_shift 67 = .ok (.iadd, 1) := allD_get dtX7_shift 32 rfl
theorem dX7_shift_68 : decode cX7_shift 68 = .ok (.invokestatic 68, 3) := allD_get dtX7_shift 33 rfl
theorem dX7_shift_71 : decode cX7_shift 71 = .ok (.ifCond .eq 35, 3) := allD_get dtX7_shift 34 rfl
theorem dX7_shift_74 : decode cX7_shift 74 = .ok (.aload_n 0, 1) := allD_get dtX7_shift 35 rfl
theorem dX7_shift_75 : decode cX7_shift 75 = .ok (.getfield 26, 3) := allD_get dtX7_shift 36 rfl
theorem dX7_shift_78 : decode cX7_shift 78 = .ok (.iload_n 1, 1) := allD_get dtX7_shift 37 rfl
theorem dX7_shift_79 : decode cX7_shift 79 = .ok (.invokevirtual 173, 3) := allD_get dtX7_shift 38 rfl
theorem dX7_shift_82 : decode cX7_shift 82 = .ok (.iload_n 3, 1) := allD_get dtX7_shift 39 rfl
theorem dX7_shift_83 : decode cX7_shift 83 = .ok (.iadd, 1) := allD_get dtX7_shift 40 rfl
theorem dX7_shift_84 : decode cX7_shift 84 = .ok (.invokestatic 68, 3) := allD_get dtX7_shift 41 rfl
theorem dX7_shift_87 : decode cX7_shift 87 = .ok (.ifCond .eq 19, 3) := allD_get dtX7_shift 42 rfl
theorem dX7_shift_90 : decode cX7_shift 90 = .ok (.aload_n 0, 1) := allD_get dtX7_shift 43 rfl
theorem dX7_shift_91 : decode cX7_shift 91 = .ok (.getfield 26, 3) := allD_get dtX7_shift 44 rfl
theorem dX7_shift_94 : decode cX7_shift 94 = .ok (.iload_n 1, 1) := allD_get dtX7_shift 45 rfl
theorem dX7_shift_95 : decode cX7_shift 95 = .ok (.invokevirtual 176, 3) := allD_get dtX7_shift 46 rfl
theorem dX7_shift_98 : decode cX7_shift 98 = .ok (.iload_n 3, 1) := allD_get dtX7_shift 47 rfl
theorem dX7_shift_99 : decode cX7_shift 99 = .ok (.iadd, 1) := allD_get dtX7_shift 48 rfl
theorem dX7_shift_100 : decode cX7_shift 100 = .ok (.invokestatic 68, 3) := allD_get dtX7_shift 49 rfl
theorem dX7_shift_103 : decode cX7_shift 103 = .ok (.ifCond .ne 6, 3) := allD_get dtX7_shift 50 rfl
theorem dX7_shift_106 : decode cX7_shift 106 = .ok (.bipush (-4), 2) := allD_get dtX7_shift 51 rfl
theorem dX7_shift_108 : decode cX7_shift 108 = .ok (.ireturn, 1) := allD_get dtX7_shift 52 rfl
theorem dX7_shift_109 : decode cX7_shift 109 = .ok (.iload_n 2, 1) := allD_get dtX7_shift 53 rfl
theorem dX7_shift_110 : decode cX7_shift 110 = .ok (.ifCond .ne 10, 3) := allD_get dtX7_shift 54 rfl
theorem dX7_shift_113 : decode cX7_shift 113 = .ok (.iload_n 3, 1) := allD_get dtX7_shift 55 rfl
theorem dX7_shift_114 : decode cX7_shift 114 = .ok (.ifCond .ne 6, 3) := allD_get dtX7_shift 56 rfl
theorem dX7_shift_117 : decode cX7_shift 117 = .ok (.bipush (-5), 2) := allD_get dtX7_shift 57 rfl
theorem dX7_shift_119 : decode cX7_shift 119 = .ok (.ireturn, 1) := allD_get dtX7_shift 58 rfl
theorem dX7_shift_120 : decode cX7_shift 120 = .ok (.aload_n 0, 1) := allD_get dtX7_shift 59 rfl
theorem dX7_shift_121 : decode cX7_shift 121 = .ok (.getfield 33, 3) := allD_get dtX7_shift 60 rfl
theorem dX7_shift_124 : decode cX7_shift 124 = .ok (.invokevirtual 79, 3) := allD_get dtX7_shift 61 rfl
theorem dX7_shift_127 : decode cX7_shift 127 = .ok (.iconst 0, 1) := allD_get dtX7_shift 62 rfl
theorem dX7_shift_128 : decode cX7_shift 128 = .ok (.istore 4, 2) := allD_get dtX7_shift 63 rfl
theorem dX7_shift_130 : decode cX7_shift 130 = .ok (.iload 4, 2) := allD_get dtX7_shift 64 rfl
theorem dX7_shift_132 : decode cX7_shift 132 = .ok (.aload_n 0, 1) := allD_get dtX7_shift 65 rfl
theorem dX7_shift_133 : decode cX7_shift 133 = .ok (.getfield 26, 3) := allD_get dtX7_shift 66 rfl
theorem dX7_shift_136 : decode cX7_shift 136 = .ok (.iload_n 1, 1) := allD_get dtX7_shift 67 rfl
theorem dX7_shift_137 : decode cX7_shift 137 = .ok (.invokevirtual 115, 3) := allD_get dtX7_shift 68 rfl
theorem dX7_shift_140 : decode cX7_shift 140 = .ok (.if_icmp .ge 40, 3) := allD_get dtX7_shift 69 rfl
theorem dX7_shift_143 : decode cX7_shift 143 = .ok (.aload_n 0, 1) := allD_get dtX7_shift 70 rfl
theorem dX7_shift_144 : decode cX7_shift 144 = .ok (.getfield 33, 3) := allD_get dtX7_shift 71 rfl
theorem dX7_shift_147 : decode cX7_shift 147 = .ok (.aload_n 0, 1) := allD_get dtX7_shift 72 rfl
theorem dX7_shift_148 : decode cX7_shift 148 = .ok (.getfield 26, 3) := allD_get dtX7_shift 73 rfl
theorem dX7_shift_151 : decode cX7_shift 151 = .ok (.iload_n 1, 1) := allD_get dtX7_shift 74 rfl
theorem dX7_shift_152 : decode cX7_shift 152 = .ok (.iload 4, 2) := allD_get dtX7_shift 75 rfl
theorem dX7_shift_154 : decode cX7_shift 154 = .ok (.invokevirtual 118, 3) := allD_get dtX7_shift 76 rfl
theorem dX7_shift_157 : decode cX7_shift 157 = .ok (.iload_n 2, 1) := allD_get dtX7_shift 77 rfl
theorem dX7_shift_158 : decode cX7_shift 158 = .ok (.iadd, 1) := allD_get dtX7_shift 78 rfl
theorem dX7_shift_159 : decode cX7_shift 159 = .ok (.aload_n 0, 1) := allD_get dtX7_shift 79 rfl
theorem dX7_shift_160 : decode cX7_shift 160 = .ok (.getfield 26, 3) := allD_get dtX7_shift 80 rfl
theorem dX7_shift_163 : decode cX7_shift 163 = .ok (.iload_n 1, 1) := allD_get dtX7_shift 81 rfl
theorem dX7_shift_164 : decode cX7_shift 164 = .ok (.iload 4, 2) := allD_get dtX7_shift 82 rfl
theorem dX7_shift_166 : decode cX7_shift 166 = .ok (.invokevirtual 122, 3) := allD_get dtX7_shift 83 rfl
theorem dX7_shift_169 : decode cX7_shift 169 = .ok (.iload_n 3, 1) := allD_get dtX7_shift 84 rfl
theorem dX7_shift_170 : decode cX7_shift 170 = .ok (.iadd, 1) := allD_get dtX7_shift 85 rfl
theorem dX7_shift_171 : decode cX7_shift 171 = .ok (.invokevirtual 75, 3) := allD_get dtX7_shift 86 rfl
theorem dX7_shift_174 : decode cX7_shift 174 = .ok (.iinc 4 1, 3) := allD_get dtX7_shift 87 rfl
theorem dX7_shift_177 : decode cX7_shift 177 = .ok (.goto (-47), 3) := allD_get dtX7_shift 88 rfl
theorem dX7_shift_180 : decode cX7_shift 180 = .ok (.aload_n 0, 1) := allD_get dtX7_shift 89 rfl
theorem dX7_shift_181 : decode cX7_shift 181 = .ok (.iload_n 1, 1) := allD_get dtX7_shift 90 rfl
theorem dX7_shift_182 : decode cX7_shift 182 = .ok (.invokevirtual 149, 3) := allD_get dtX7_shift 91 rfl
theorem dX7_shift_185 : decode cX7_shift 185 = .ok (.ireturn, 1) := allD_get dtX7_shift 92 rfl
def tbX7_paint : List (Nat × Instr × Nat) := [(0, .aload_n 0, 1), (1, .getfield 26, 3), (4, .iload_n 1, 1), (5, .invokevirtual 136, 3), (8, .ifCond .ne 5, 3), (11, .iconst (-1), 1), (12, .ireturn, 1), (13, .iload_n 2, 1), (14, .invokestatic 97, 3), (17, .ifCond .ne 6, 3), (20, .bipush (-2), 2), (22, .ireturn, 1), (23, .aload_n 0, 1), (24, .getfield 26, 3), (27, .iload_n 1, 1), (28, .invokevirtual 128, 3), (31, .istore_n 3, 1), (32, .iload_n 3, 1), (33, .iload_n 2, 1), (34, .if_icmp .ne 6, 3), (37, .bipush (-5), 2), (39, .ireturn, 1), (40, .aload_n 0, 1), (41, .getfield 26, 3), (44, .iload_n 1, 1), (45, .iload_n 2, 1), (46, .invokevirtual 179, 3), (49, .aload_n 0, 1), (50, .getfield 39, 3), (53, .aload_n 0, 1), (54, .getfield 26, 3), (57, .invokevirtual 103, 3), (60, .iload_n 3, 1), (61, .ireturn, 1)]
set_option maxRecDepth 100000 in
theorem dtX7_paint : allD cX7_paint tbX7_paint = true := by decide +kernel
theorem dX7_paint_0 : decode cX7_paint 0 = .ok (.aload_n 0, 1) := allD_get dtX7_paint 0 rfl
theorem dX7_paint_1 : decode cX7_paint 1 = .ok (.getfield 26, 3) := allD_get dtX7_paint 1 rfl
theorem dX7_paint_4 : decode cX7_paint 4 = .ok (.iload_n 1, 1) := allD_get dtX7_paint 2 rfl
theorem dX7_paint_5 : decode cX7_paint 5 = .ok (.invokevirtual 136, 3) := allD_get dtX7_paint 3 rfl
theorem dX7_paint_8 : decode cX7_paint 8 = .ok (.ifCond .ne 5, 3) := allD_get dtX7_paint 4 rfl
theorem dX7_paint_11 : decode cX7_paint 11 = .ok (.iconst (-1), 1) := allD_get dtX7_paint 5 rfl
theorem dX7_paint_12 : decode cX7_paint 12 = .ok (.ireturn, 1) := allD_get dtX7_paint 6 rfl
theorem dX7_paint_13 : decode cX7_paint 13 = .ok (.iload_n 2, 1) := allD_get dtX7_paint 7 rfl
theorem dX7_paint_14 : decode cX7_paint 14 = .ok (.invokestatic 97, 3) := allD_get dtX7_paint 8 rfl
theorem dX7_paint_17 : decode cX7_paint 17 = .ok (.ifCond .ne 6, 3) := allD_get dtX7_paint 9 rfl
theorem dX7_paint_20 : decode cX7_paint 20 = .ok (.bipush (-2), 2) := allD_get dtX7_paint 10 rfl
theorem dX7_paint_22 : decode cX7_paint 22 = .ok (.ireturn, 1) := allD_get dtX7_paint 11 rfl
theorem dX7_paint_23 : decode cX7_paint 23 = .ok (.aload_n 0, 1) := allD_get dtX7_paint 12 rfl
theorem dX7_paint_24 : decode cX7_paint 24 = .ok (.getfield 26, 3) := allD_get dtX7_paint 13 rfl
theorem dX7_paint_27 : decode cX7_paint 27 = .ok (.iload_n 1, 1) := allD_get dtX7_paint 14 rfl
theorem dX7_paint_28 : decode cX7_paint 28 = .ok (.invokevirtual 128, 3) := allD_get dtX7_paint 15 rfl
theorem dX7_paint_31 : decode cX7_paint 31 = .ok (.istore_n 3, 1) := allD_get dtX7_paint 16 rfl
theorem dX7_paint_32 : decode cX7_paint 32 = .ok (.iload_n 3, 1) := allD_get dtX7_paint 17 rfl
theorem dX7_paint_33 : decode cX7_paint 33 = .ok (.iload_n 2, 1) := allD_get dtX7_paint 18 rfl
theorem dX7_paint_34 : decode cX7_paint 34 = .ok (.if_icmp .ne 6, 3) := allD_get dtX7_paint 19 rfl
theorem dX7_paint_37 : decode cX7_paint 37 = .ok (.bipush (-5), 2) := allD_get dtX7_paint 20 rfl
theorem dX7_paint_39 : decode cX7_paint 39 = .ok (.ireturn, 1) := allD_get dtX7_paint 21 rfl
theorem dX7_paint_40 : decode cX7_paint 40 = .ok (.aload_n 0, 1) := allD_get dtX7_paint 22 rfl
theorem dX7_paint_41 : decode cX7_paint 41 = .ok (.getfield 26, 3) := allD_get dtX7_paint 23 rfl
theorem dX7_paint_44 : decode cX7_paint 44 = .ok (.iload_n 1, 1) := allD_get dtX7_paint 24 rfl
theorem dX7_paint_45 : decode cX7_paint 45 = .ok (.iload_n 2, 1) := allD_get dtX7_paint 25 rfl
theorem dX7_paint_46 : decode cX7_paint 46 = .ok (.invokevirtual 179, 3) := allD_get dtX7_paint 26 rfl
theorem dX7_paint_49 : decode cX7_paint 49 = .ok (.aload_n 0, 1) := allD_get dtX7_paint 27 rfl
theorem dX7_paint_50 : decode cX7_paint 50 = .ok (.getfield 39, 3) := allD_get dtX7_paint 28 rfl
theorem dX7_paint_53 : decode cX7_paint 53 = .ok (.aload_n 0, 1) := allD_get dtX7_paint 29 rfl
theorem dX7_paint_54 : decode cX7_paint 54 = .ok (.getfield 26, 3) := allD_get dtX7_paint 30 rfl
theorem dX7_paint_57 : decode cX7_paint 57 = .ok (.invokevirtual 103, 3) := allD_get dtX7_paint 31 rfl
theorem dX7_paint_60 : decode cX7_paint 60 = .ok (.iload_n 3, 1) := allD_get dtX7_paint 32 rfl
theorem dX7_paint_61 : decode cX7_paint 61 = .ok (.ireturn, 1) := allD_get dtX7_paint 33 rfl
def tbX7_remove : List (Nat × Instr × Nat) := [(0, .aload_n 0, 1), (1, .getfield 26, 3), (4, .iload_n 1, 1), (5, .invokevirtual 136, 3), (8, .ifCond .ne 5, 3), (11, .iconst (-1), 1), (12, .ireturn, 1), (13, .aload_n 0, 1), (14, .getfield 26, 3), (17, .iload_n 1, 1), (18, .invokevirtual 164, 3), (21, .aload_n 0, 1), (22, .getfield 39, 3), (25, .aload_n 0, 1), (26, .getfield 26, 3), (29, .invokevirtual 103, 3), (32, .aload_n 0, 1), (33, .getfield 26, 3), (36, .getfield 107, 3), (39, .ireturn, 1)]
set_option maxRecDepth 100000 in
theorem dtX7_remove : allD cX7_remove tbX7_remove = true := by decide +kernel
theorem dX7_remove_0 : decode cX7_remove 0 = .ok (.aload_n 0, 1) := allD_get dtX7_remove 0 rfl
theorem dX7_remove_1 : decode cX7_remove 1 = .ok (.getfield 26, 3) := allD_get dtX7_remove 1 rfl
theorem dX7_remove_4 : decode cX7_remove 4 = .ok (.iload_n 1, 1) := allD_get dtX7_remove 2 rfl
theorem dX7_remove_5 : decode cX7_remove 5 = .ok (.invokevirtual 136, 3) := allD_get dtX7_remove 3 rfl
theorem dX7_remove_8 : decode cX7_remove 8 = .ok (.ifCond .ne 5, 3) := allD_get dtX7_remove 4 rfl
theorem dX7_remove_11 : decode cX7_remove 11 = .ok (.iconst (-1), 1) := allD_get dtX7_remove 5 rfl
theorem dX7_remove_12 : decode cX7_remove 12 = .ok (.ireturn, 1) := allD_get dtX7_remove 6 rfl
theorem dX7_remove_13 : decode cX7_remove 13 = .ok (.aload_n 0, 1) := allD_get dtX7_remove 7 rfl
theorem dX7_remove_14 : decode cX7_remove 14 = .ok (.getfield 26, 3) := allD_get dtX7_remove 8 rfl
theorem dX7_remove_17 : decode cX7_remove 17 = .ok (.iload_n 1, 1) := allD_get dtX7_remove 9 rfl
theorem dX7_remove_18 : decode cX7_remove 18 = .ok (.invokevirtual 164, 3) := allD_get dtX7_remove 10 rfl
theorem dX7_remove_21 : decode cX7_remove 21 = .ok (.aload_n 0, 1) := allD_get dtX7_remove 11 rfl
theorem dX7_remove_22 : decode cX7_remove 22 = .ok (.getfield 39, 3) := allD_get dtX7_remove 12 rfl
theorem dX7_remove_25 : decode cX7_remove 25 = .ok (.aload_n 0, 1) := allD_get dtX7_remove 13 rfl
theorem dX7_remove_26 : decode cX7_remove 26 = .ok (.getfield 26, 3) := allD_get dtX7_remove 14 rfl
theorem dX7_remove_29 : decode cX7_remove 29 = .ok (.invokevirtual 103, 3) := allD_get dtX7_remove 15 rfl
theorem dX7_remove_32 : decode cX7_remove 32 = .ok (.aload_n 0, 1) := allD_get dtX7_remove 16 rfl
theorem dX7_remove_33 : decode cX7_remove 33 = .ok (.getfield 26, 3) := allD_get dtX7_remove 17 rfl
theorem dX7_remove_36 : decode cX7_remove 36 = .ok (.getfield 107, 3) := allD_get dtX7_remove 18 rfl
theorem dX7_remove_39 : decode cX7_remove 39 = .ok (.ireturn, 1) := allD_get dtX7_remove 19 rfl
def tbX7_undo : List (Nat × Instr × Nat) := [(0, .aload_n 0, 1), (1, .getfield 39, 3), (4, .getfield 182, 3), (7, .ifCond .ne 6, 3), (10, .bipush (-5), 2), (12, .ireturn, 1), (13, .aload_n 0, 1), (14, .getfield 39, 3), (17, .aload_n 0, 1), (18, .getfield 26, 3), (21, .invokevirtual 185, 3), (24, .aload_n 0, 1), (25, .getfield 39, 3), (28, .getfield 182, 3), (31, .ireturn, 1)]
set_option maxRecDepth 100000 in
theorem dtX7_undo : allD cX7_undo tbX7_undo = true := by decide +kernel
theorem dX7_undo_0 : decode cX7_undo 0 = .ok (.aload_n 0, 1) := allD_get dtX7_undo 0 rfl
theorem dX7_undo_1 : decode cX7_undo 1 = .ok (.getfield 39, 3) := allD_get dtX7_undo 1 rfl
theorem dX7_undo_4 : decode cX7_undo 4 = .ok (.getfield 182, 3) := allD_get dtX7_undo 2 rfl
theorem dX7_undo_7 : decode cX7_undo 7 = .ok (.ifCond .ne 6, 3) := allD_get dtX7_undo 3 rfl
theorem dX7_undo_10 : decode cX7_undo 10 = .ok (.bipush (-5), 2) := allD_get dtX7_undo 4 rfl
theorem dX7_undo_12 : decode cX7_undo 12 = .ok (.ireturn, 1) := allD_get dtX7_undo 5 rfl
theorem dX7_undo_13 : decode cX7_undo 13 = .ok (.aload_n 0, 1) := allD_get dtX7_undo 6 rfl
theorem dX7_undo_14 : decode cX7_undo 14 = .ok (.getfield 39, 3) := allD_get dtX7_undo 7 rfl
theorem dX7_undo_17 : decode cX7_undo 17 = .ok (.aload_n 0, 1) := allD_get dtX7_undo 8 rfl
theorem dX7_undo_18 : decode cX7_undo 18 = .ok (.getfield 26, 3) := allD_get dtX7_undo 9 rfl
theorem dX7_undo_21 : decode cX7_undo 21 = .ok (.invokevirtual 185, 3) := allD_get dtX7_undo 10 rfl
theorem dX7_undo_24 : decode cX7_undo 24 = .ok (.aload_n 0, 1) := allD_get dtX7_undo 11 rfl
theorem dX7_undo_25 : decode cX7_undo 25 = .ok (.getfield 39, 3) := allD_get dtX7_undo 12 rfl
theorem dX7_undo_28 : decode cX7_undo 28 = .ok (.getfield 182, 3) := allD_get dtX7_undo 13 rfl
theorem dX7_undo_31 : decode cX7_undo 31 = .ok (.ireturn, 1) := allD_get dtX7_undo 14 rfl
def tbX7_redo : List (Nat × Instr × Nat) := [(0, .aload_n 0, 1), (1, .getfield 39, 3), (4, .getfield 188, 3), (7, .ifCond .ne 6, 3), (10, .bipush (-5), 2), (12, .ireturn, 1), (13, .aload_n 0, 1), (14, .getfield 39, 3), (17, .aload_n 0, 1), (18, .getfield 26, 3), (21, .invokevirtual 191, 3), (24, .aload_n 0, 1), (25, .getfield 39, 3), (28, .getfield 188, 3), (31, .ireturn, 1)]
set_option maxRecDepth 100000 in
theorem dtX7_redo : allD cX7_redo tbX7_redo = true := by decide +kernel
theorem dX7_redo_0 : decode cX7_redo 0 = .ok (.aload_n 0, 1) := allD_get dtX7_redo 0 rfl
theorem dX7_redo_1 : decode cX7_redo 1 = .ok (.getfield 39, 3) := allD_get dtX7_redo 1 rfl
theorem dX7_redo_4 : decode cX7_redo 4 = .ok (.getfield 188, 3) := allD_get dtX7_redo 2 rfl
theorem dX7_redo_7 : decode cX7_redo 7 = .ok (.ifCond .ne 6, 3) := allD_get dtX7_redo 3 rfl
theorem dX7_redo_10 : decode cX7_redo 10 = .ok (.bipush (-5), 2) := allD_get dtX7_redo 4 rfl
theorem dX7_redo_12 : decode cX7_redo 12 = .ok (.ireturn, 1) := allD_get dtX7_redo 5 rfl
theorem dX7_redo_13 : decode cX7_redo 13 = .ok (.aload_n 0, 1) := allD_get dtX7_redo 6 rfl
theorem dX7_redo_14 : decode cX7_redo 14 = .ok (.getfield 39, 3) := allD_get dtX7_redo 7 rfl
theorem dX7_redo_17 : decode cX7_redo 17 = .ok (.aload_n 0, 1) := allD_get dtX7_redo 8 rfl
theorem dX7_redo_18 : decode cX7_redo 18 = .ok (.getfield 26, 3) := allD_get dtX7_redo 9 rfl
theorem dX7_redo_21 : decode cX7_redo 21 = .ok (.invokevirtual 191, 3) := allD_get dtX7_redo 10 rfl
theorem dX7_redo_24 : decode cX7_redo 24 = .ok (.aload_n 0, 1) := allD_get dtX7_redo 11 rfl
theorem dX7_redo_25 : decode cX7_redo 25 = .ok (.getfield 39, 3) := allD_get dtX7_redo 12 rfl
theorem dX7_redo_28 : decode cX7_redo 28 = .ok (.getfield 188, 3) := allD_get dtX7_redo 13 rfl
theorem dX7_redo_31 : decode cX7_redo 31 = .ok (.ireturn, 1) := allD_get dtX7_redo 14 rfl
def tbX7_stroke : List (Nat × Instr × Nat) := [(0, .aload_n 0, 1), (1, .getfield 26, 3), (4, .iload_n 1, 1), (5, .invokevirtual 136, 3), (8, .ifCond .ne 5, 3), (11, .iconst (-1), 1), (12, .ireturn, 1), (13, .iload_n 2, 1), (14, .tableswitch 159 0 9 #[54, 63, 72, 81, 90, 99, 108, 117, 131, 145], 54), (68, .aload_n 0, 1), (69, .getfield 26, 3), (72, .iload_n 1, 1), (73, .invokevirtual 128, 3), (76, .ireturn, 1), (77, .aload_n 0, 1), (78, .getfield 26, 3), (81, .iload_n 1, 1), (82, .invokevirtual 115, 3), (85, .ireturn, 1), (86, .aload_n 0, 1), (87, .getfield 26, 3), (90, .iload_n 1, 1), (91, .invokevirtual 167, 3), (94, .ireturn, 1), (95, .aload_n 0, 1), (96, .getfield 26, 3), (99, .iload_n 1, 1), (100, .invokevirtual 170, 3), (103, .ireturn, 1), (104, .aload_n 0, 1), (105, .getfield 26, 3), (108, .iload_n 1, 1), (109, .invokevirtual 173, 3), (112, .ireturn, 1), (113, .aload_n 0, 1), (114, .getfield 26, 3), (117, .iload_n 1, 1), (118, .invokevirtual 176, 3), (121, .ireturn, 1), (122, .aload_n 0, 1), (123, .getfield 26, 3), (126, .iload_n 1, 1), (127, .invokevirtual 194, 3), (130, .ireturn, 1), (131, .aload_n 0, 1), (132, .invokevirtual 196, 3), (135, .aload_n 0, 1), (136, .getfield 46, 3), (139, .getfield 199, 3), (142, .iload_n 1, 1), (143, .iaload, 1), (144, .ireturn, 1), (145, .aload_n 0, 1), (146, .invokevirtual 196, 3), (149, .aload_n 0, 1), (150, .getfield 53, 3), (153, .getfield 203, 3), (156, .iload_n 1, 1), (157, .iaload, 1), (158, .ireturn, 1), (159, .aload_n 0, 1), (160, .invokevirtual 196, 3), (163, .aload_n 0, 1), (164, .getfield 53, 3), (167, .getfield 206, 3), (170, .iload_n 1, 1), (171, .iaload, 1), (172, .ireturn, 1), (173, .bipush (-2), 2), (175, .ireturn, 1)]
set_option maxRecDepth 100000 in
theorem dtX7_stroke : allD cX7_stroke tbX7_stroke = true := by decide +kernel
theorem dX7_stroke_0 : decode cX7_stroke 0 = .ok (.aload_n 0, 1) := allD_get dtX7_stroke 0 rfl
theorem dX7_stroke_1 : decode cX7_stroke 1 = .ok (.getfield 26, 3) := allD_get dtX7_stroke 1 rfl
theorem dX7_stroke_4 : decode cX7_stroke 4 = .ok (.iload_n 1, 1) := allD_get dtX7_stroke 2 rfl
theorem dX7_stroke_5 : decode cX7_stroke 5 = .ok (.invokevirtual 136, 3) := allD_get dtX7_stroke 3 rfl
theorem dX7_stroke_8 : decode cX7_stroke 8 = .ok (.ifCond .ne 5, 3) := allD_get dtX7_stroke 4 rfl
theorem dX7_stroke_11 : decode cX7_stroke 11 = .ok (.iconst (-1), 1) := allD_get dtX7_stroke 5 rfl
theorem dX7_stroke_12 : decode cX7_stroke 12 = .ok (.ireturn, 1) := allD_get dtX7_stroke 6 rfl
theorem dX7_stroke_13 : decode cX7_stroke 13 = .ok (.iload_n 2, 1) := allD_get dtX7_stroke 7 rfl
theorem dX7_stroke_14 : decode cX7_stroke 14 = .ok (.tableswitch 159 0 9 #[54, 63, 72, 81, 90, 99, 108, 117, 131, 145], 54) := allD_get dtX7_stroke 8 rfl
theorem dX7_stroke_68 : decode cX7_stroke 68 = .ok (.aload_n 0, 1) := allD_get dtX7_stroke 9 rfl
theorem dX7_stroke_69 : decode cX7_stroke 69 = .ok (.getfield 26, 3) := allD_get dtX7_stroke 10 rfl
theorem dX7_stroke_72 : decode cX7_stroke 72 = .ok (.iload_n 1, 1) := allD_get dtX7_stroke 11 rfl
theorem dX7_stroke_73 : decode cX7_stroke 73 = .ok (.invokevirtual 128, 3) := allD_get dtX7_stroke 12 rfl
theorem dX7_stroke_76 : decode cX7_stroke 76 = .ok (.ireturn, 1) := allD_get dtX7_stroke 13 rfl
theorem dX7_stroke_77 : decode cX7_stroke 77 = .ok (.aload_n 0, 1) := allD_get dtX7_stroke 14 rfl
theorem dX7_stroke_78 : decode cX7_stroke 78 = .ok (.getfield 26, 3) := allD_get dtX7_stroke 15 rfl
theorem dX7_stroke_81 : decode cX7_stroke 81 = .ok (.iload_n 1, 1) := allD_get dtX7_stroke 16 rfl
theorem dX7_stroke_82 : decode cX7_stroke 82 = .ok (.invokevirtual 115, 3) := allD_get dtX7_stroke 17 rfl
theorem dX7_stroke_85 : decode cX7_stroke 85 = .ok (.ireturn, 1) := allD_get dtX7_stroke 18 rfl
theorem dX7_stroke_86 : decode cX7_stroke 86 = .ok (.aload_n 0, 1) := allD_get dtX7_stroke 19 rfl
theorem dX7_stroke_87 : decode cX7_stroke 87 = .ok (.getfield 26, 3) := allD_get dtX7_stroke 20 rfl
theorem dX7_stroke_90 : decode cX7_stroke 90 = .ok (.iload_n 1, 1) := allD_get dtX7_stroke 21 rfl
theorem dX7_stroke_91 : decode cX7_stroke 91 = .ok (.invokevirtual 167, 3) := allD_get dtX7_stroke 22 rfl
theorem dX7_stroke_94 : decode cX7_stroke 94 = .ok (.ireturn, 1) := allD_get dtX7_stroke 23 rfl
theorem dX7_stroke_95 : decode cX7_stroke 95 = .ok (.aload_n 0, 1) := allD_get dtX7_stroke 24 rfl
theorem dX7_stroke_96 : decode cX7_stroke 96 = .ok (.getfield 26, 3) := allD_get dtX7_stroke 25 rfl
theorem dX7_stroke_99 : decode cX7_stroke 99 = .ok (.iload_n 1, 1) := allD_get dtX7_stroke 26 rfl
theorem dX7_stroke_100 : decode cX7_stroke 100 = .ok (.invokevirtual 170, 3) := allD_get dtX7_stroke 27 rfl
theorem dX7_stroke_103 : decode cX7_stroke 103 = .ok (.ireturn, 1) := allD_get dtX7_stroke 28 rfl
theorem dX7_stroke_104 : decode cX7_stroke 104 = .ok (.aload_n 0, 1) := allD_get dtX7_stroke 29 rfl
theorem dX7_stroke_105 : decode cX7_stroke 105 = .ok (.getfield 26, 3) := allD_get dtX7_stroke 30 rfl
theorem dX7_stroke_108 : decode cX7_stroke 108 = .ok (.iload_n 1, 1) := allD_get dtX7_stroke 31 rfl
theorem dX7_stroke_109 : decode cX7_stroke 109 = .ok (.invokevirtual 173, 3) := allD_get dtX7_stroke 32 rfl
theorem dX7_stroke_112 : decode cX7_stroke 112 = .ok (.ireturn, 1) := allD_get dtX7_stroke 33 rfl
theorem dX7_stroke_113 : decode cX7_stroke 113 = .ok (.aload_n 0, 1) := allD_get dtX7_stroke 34 rfl
theorem dX7_stroke_114 : decode cX7_stroke 114 = .ok (.getfield 26, 3) := allD_get dtX7_stroke 35 rfl
theorem dX7_stroke_117 : decode cX7_stroke 117 = .ok (.iload_n 1, 1) := allD_get dtX7_stroke 36 rfl
theorem dX7_stroke_118 : decode cX7_stroke 118 = .ok (.invokevirtual 176, 3) := allD_get dtX7_stroke 37 rfl
theorem dX7_stroke_121 : decode cX7_stroke 121 = .ok (.ireturn, 1) := allD_get dtX7_stroke 38 rfl
theorem dX7_stroke_122 : decode cX7_stroke 122 = .ok (.aload_n 0, 1) := allD_get dtX7_stroke 39 rfl
theorem dX7_stroke_123 : decode cX7_stroke 123 = .ok (.getfield 26, 3) := allD_get dtX7_stroke 40 rfl
theorem dX7_stroke_126 : decode cX7_stroke 126 = .ok (.iload_n 1, 1) := allD_get dtX7_stroke 41 rfl
theorem dX7_stroke_127 : decode cX7_stroke 127 = .ok (.invokevirtual 194, 3) := allD_get dtX7_stroke 42 rfl
theorem dX7_stroke_130 : decode cX7_stroke 130 = .ok (.ireturn, 1) := allD_get dtX7_stroke 43 rfl
theorem dX7_stroke_131 : decode cX7_stroke 131 = .ok (.aload_n 0, 1) := allD_get dtX7_stroke 44 rfl
theorem dX7_stroke_132 : decode cX7_stroke 132 = .ok (.invokevirtual 196, 3) := allD_get dtX7_stroke 45 rfl
theorem dX7_stroke_135 : decode cX7_stroke 135 = .ok (.aload_n 0, 1) := allD_get dtX7_stroke 46 rfl
theorem dX7_stroke_136 : decode cX7_stroke 136 = .ok (.getfield 46, 3) := allD_get dtX7_stroke 47 rfl
theorem dX7_stroke_139 : decode cX7_stroke 139 = .ok (.getfield 199, 3) := allD_get dtX7_stroke 48 rfl
theorem dX7_stroke_142 : decode cX7_stroke 142 = .ok (.iload_n 1, 1) := allD_get dtX7_stroke 49 rfl
theorem dX7_stroke_143 : decode cX7_stroke 143 = .ok (.iaload, 1) := allD_get dtX7_stroke 50 rfl
theorem dX7_stroke_144 : decode cX7_stroke 144 = .ok (.ireturn, 1) := allD_get dtX7_stroke 51 rfl
theorem dX7_stroke_145 : decode cX7_stroke 145 = .ok (.aload_n 0, 1) := allD_get dtX7_stroke 52 rfl
theorem dX7_stroke_146 : decode cX7_stroke 146 = .ok (.invokevirtual 196, 3) := allD_get dtX7_stroke 53 rfl
theorem dX7_stroke_149 : decode cX7_stroke 149 = .ok (.aload_n 0, 1) := allD_get dtX7_stroke 54 rfl
theorem dX7_stroke_150 : decode cX7_stroke 150 = .ok (.getfield 53, 3) := allD_get dtX7_stroke 55 rfl
theorem dX7_stroke_153 : decode cX7_stroke 153 = .ok (.getfield 203, 3) := allD_get dtX7_stroke 56 rfl
theorem dX7_stroke_156 : decode cX7_stroke 156 = .ok (.iload_n 1, 1) := allD_get dtX7_stroke 57 rfl
theorem dX7_stroke_157 : decode cX7_stroke 157 = .ok (.iaload, 1) := allD_get dtX7_stroke 58 rfl
theorem dX7_stroke_158 : decode cX7_stroke 158 = .ok (.ireturn, 1) := allD_get dtX7_stroke 59 rfl
theorem dX7_stroke_159 : decode cX7_stroke 159 = .ok (.aload_n 0, 1) := allD_get dtX7_stroke 60 rfl
theorem dX7_stroke_160 : decode cX7_stroke 160 = .ok (.invokevirtual 196, 3) := allD_get dtX7_stroke 61 rfl
theorem dX7_stroke_163 : decode cX7_stroke 163 = .ok (.aload_n 0, 1) := allD_get dtX7_stroke 62 rfl
theorem dX7_stroke_164 : decode cX7_stroke 164 = .ok (.getfield 53, 3) := allD_get dtX7_stroke 63 rfl
theorem dX7_stroke_167 : decode cX7_stroke 167 = .ok (.getfield 206, 3) := allD_get dtX7_stroke 64 rfl
theorem dX7_stroke_170 : decode cX7_stroke 170 = .ok (.iload_n 1, 1) := allD_get dtX7_stroke 65 rfl
theorem dX7_stroke_171 : decode cX7_stroke 171 = .ok (.iaload, 1) := allD_get dtX7_stroke 66 rfl
theorem dX7_stroke_172 : decode cX7_stroke 172 = .ok (.ireturn, 1) := allD_get dtX7_stroke 67 rfl
theorem dX7_stroke_173 : decode cX7_stroke 173 = .ok (.bipush (-2), 2) := allD_get dtX7_stroke 68 rfl
theorem dX7_stroke_175 : decode cX7_stroke 175 = .ok (.ireturn, 1) := allD_get dtX7_stroke 69 rfl
def tbX7_point : List (Nat × Instr × Nat) := [(0, .aload_n 0, 1), (1, .getfield 26, 3), (4, .iload_n 1, 1), (5, .invokevirtual 136, 3), (8, .ifCond .eq 21, 3), (11, .iload_n 2, 1), (12, .iconst 0, 1), (13, .aload_n 0, 1), (14, .getfield 26, 3), (17, .iload_n 1, 1), (18, .invokevirtual 115, 3), (21, .iconst 1, 1), (22, .isub, 1), (23, .invokestatic 110, 3), (26, .ifCond .ne 5, 3), (29, .iconst (-1), 1), (30, .ireturn, 1), (31, .iload_n 3, 1), (32, .lookupswitch 48 #[(0, 28), (1, 38)], 28), (60, .aload_n 0, 1), (61, .getfield 26, 3), (64, .iload_n 1, 1), (65, .iload_n 2, 1), (66, .invokevirtual 118, 3), (69, .ireturn, 1), (70, .aload_n 0, 1), (71, .getfield 26, 3), (74, .iload_n 1, 1), (75, .iload_n 2, 1), (76, .invokevirtual 122, 3), (79, .ireturn, 1), (80, .bipush (-2), 2), (82, .ireturn, 1)]
set_option maxRecDepth 100000 in
theorem dtX7_point : allD cX7_point tbX7_point = true := by decide +kernel
theorem dX7_point_0 : decode cX7_point 0 = .ok (.aload_n 0, 1) := allD_get dtX7_point 0 rfl
theorem dX7_point_1 : decode cX7_point 1 = .ok (.getfield 26, 3) := allD_get dtX7_point 1 rfl
theorem dX7_point_4 : decode cX7_point 4 = .ok (.iload_n 1, 1) := allD_get dtX7_point 2 rfl
theorem dX7_point_5 : decode cX7_point 5 = .ok (.invokevirtual 136, 3) := allD_get dtX7_point 3 rfl
theorem dX7_point_8 : decode cX7_point 8 = .ok (.ifCond .eq 21, 3) := allD_get dtX7_point 4 rfl
theorem dX7_point_11 : decode cX7_point 11 = .ok (.iload_n 2, 1) := allD_get dtX7_point 5 rfl
theorem dX7_point_12 : decode cX7_point 12 = .ok (.iconst 0, 1) := allD_get dtX7_point 6 rfl
theorem dX7_point_13 : decode cX7_point 13 = .ok (.aload_n 0, 1) := allD_get dtX7_point 7 rfl
theorem dX7_point_14 : decode cX7_point 14 = .ok (.getfield 26, 3) := allD_get dtX7_point 8 rfl
theorem dX7_point_17 : decode cX7_point 17 = .ok (.iload_n 1, 1) := allD_get dtX7_point 9 rfl
theorem dX7_point_18 : decode cX7_point 18 = .ok (.invokevirtual 115, 3) := allD_get dtX7_point 10 rfl
theorem dX7_point_21 : decode cX7_point 21 = .ok (.iconst 1, 1) := allD_get dtX7_point 11 rfl
theorem dX7_point_22 : decode cX7_point 22 = .ok (.isub, 1) := allD_get dtX7_point 12 rfl
theorem dX7_point_23 : decode cX7_point 23 = .ok (.invokestatic 110, 3) := allD_get dtX7_point 13 rfl
theorem dX7_point_26 : decode cX7_point 26 = .ok (.ifCond .ne 5, 3) := allD_get dtX7_point 14 rfl
theorem dX7_point_29 : decode cX7_point 29 = .ok (.iconst (-1), 1) := allD_get dtX7_point 15 rfl
theorem dX7_point_30 : decode cX7_point 30 = .ok (.ireturn, 1) := allD_get dtX7_point 16 rfl
theorem dX7_point_31 : decode cX7_point 31 = .ok (.iload_n 3, 1) := allD_get dtX7_point 17 rfl
theorem dX7_point_32 : decode cX7_point 32 = .ok (.lookupswitch 48 #[(0, 28), (1, 38)], 28) := allD_get dtX7_point 18 rfl
theorem dX7_point_60 : decode cX7_point 60 = .ok (.aload_n 0, 1) := allD_get dtX7_point 19 rfl
theorem dX7_point_61 : decode cX7_point 61 = .ok (.getfield 26, 3) := allD_get dtX7_point 20 rfl
theorem dX7_point_64 : decode cX7_point 64 = .ok (.iload_n 1, 1) := allD_get dtX7_point 21 rfl
theorem dX7_point_65 : decode cX7_point 65 = .ok (.iload_n 2, 1) := allD_get dtX7_point 22 rfl
theorem dX7_point_66 : decode cX7_point 66 = .ok (.invokevirtual 118, 3) := allD_get dtX7_point 23 rfl
theorem dX7_point_69 : decode cX7_point 69 = .ok (.ireturn, 1) := allD_get dtX7_point 24 rfl
theorem dX7_point_70 : decode cX7_point 70 = .ok (.aload_n 0, 1) := allD_get dtX7_point 25 rfl
theorem dX7_point_71 : decode cX7_point 71 = .ok (.getfield 26, 3) := allD_get dtX7_point 26 rfl
theorem dX7_point_74 : decode cX7_point 74 = .ok (.iload_n 1, 1) := allD_get dtX7_point 27 rfl
theorem dX7_point_75 : decode cX7_point 75 = .ok (.iload_n 2, 1) := allD_get dtX7_point 28 rfl
theorem dX7_point_76 : decode cX7_point 76 = .ok (.invokevirtual 122, 3) := allD_get dtX7_point 29 rfl
theorem dX7_point_79 : decode cX7_point 79 = .ok (.ireturn, 1) := allD_get dtX7_point 30 rfl
theorem dX7_point_80 : decode cX7_point 80 = .ok (.bipush (-2), 2) := allD_get dtX7_point 31 rfl
theorem dX7_point_82 : decode cX7_point 82 = .ok (.ireturn, 1) := allD_get dtX7_point 32 rfl
def tbX7_read : List (Nat × Instr × Nat) := [(0, .iload_n 1, 1), (1, .ifCond .ge 6, 3), (4, .bipush (-2), 2), (6, .ireturn, 1), (7, .iload_n 1, 1), (8, .aload_n 0, 1), (9, .getfield 26, 3), (12, .getfield 107, 3), (15, .if_icmp .lt 6, 3), (18, .bipush (-5), 2), (20, .ireturn, 1), (21, .aload_n 0, 1), (22, .invokevirtual 196, 3), (25, .aload_n 0, 1), (26, .getfield 53, 3), (29, .getfield 209, 3), (32, .iload_n 1, 1), (33, .iaload, 1), (34, .ireturn, 1)]
set_option maxRecDepth 100000 in
theorem dtX7_read : allD cX7_read tbX7_read = true := by decide +kernel
theorem dX7_read_0 : decode cX7_read 0 = .ok (.iload_n 1, 1) := allD_get dtX7_read 0 rfl
theorem dX7_read_1 : decode cX7_read 1 = .ok (.ifCond .ge 6, 3) := allD_get dtX7_read 1 rfl
theorem dX7_read_4 : decode cX7_read 4 = .ok (.bipush (-2), 2) := allD_get dtX7_read 2 rfl
theorem dX7_read_6 : decode cX7_read 6 = .ok (.ireturn, 1) := allD_get dtX7_read 3 rfl
theorem dX7_read_7 : decode cX7_read 7 = .ok (.iload_n 1, 1) := allD_get dtX7_read 4 rfl
theorem dX7_read_8 : decode cX7_read 8 = .ok (.aload_n 0, 1) := allD_get dtX7_read 5 rfl
theorem dX7_read_9 : decode cX7_read 9 = .ok (.getfield 26, 3) := allD_get dtX7_read 6 rfl
theorem dX7_read_12 : decode cX7_read 12 = .ok (.getfield 107, 3) := allD_get dtX7_read 7 rfl
theorem dX7_read_15 : decode cX7_read 15 = .ok (.if_icmp .lt 6, 3) := allD_get dtX7_read 8 rfl
theorem dX7_read_18 : decode cX7_read 18 = .ok (.bipush (-5), 2) := allD_get dtX7_read 9 rfl
theorem dX7_read_20 : decode cX7_read 20 = .ok (.ireturn, 1) := allD_get dtX7_read 10 rfl
theorem dX7_read_21 : decode cX7_read 21 = .ok (.aload_n 0, 1) := allD_get dtX7_read 11 rfl
theorem dX7_read_22 : decode cX7_read 22 = .ok (.invokevirtual 196, 3) := allD_get dtX7_read 12 rfl
theorem dX7_read_25 : decode cX7_read 25 = .ok (.aload_n 0, 1) := allD_get dtX7_read 13 rfl
theorem dX7_read_26 : decode cX7_read 26 = .ok (.getfield 53, 3) := allD_get dtX7_read 14 rfl
theorem dX7_read_29 : decode cX7_read 29 = .ok (.getfield 209, 3) := allD_get dtX7_read 15 rfl
theorem dX7_read_32 : decode cX7_read 32 = .ok (.iload_n 1, 1) := allD_get dtX7_read 16 rfl
theorem dX7_read_33 : decode cX7_read 33 = .ok (.iaload, 1) := allD_get dtX7_read 17 rfl
theorem dX7_read_34 : decode cX7_read 34 = .ok (.ireturn, 1) := allD_get dtX7_read 18 rfl
def tbX7_line : List (Nat × Instr × Nat) := [(0, .aload_n 0, 1), (1, .invokevirtual 196, 3), (4, .iload_n 1, 1), (5, .iconst 0, 1), (6, .aload_n 0, 1), (7, .getfield 46, 3), (10, .getfield 212, 3), (13, .iconst 1, 1), (14, .isub, 1), (15, .invokestatic 110, 3), (18, .ifCond .ne 5, 3), (21, .iconst (-1), 1), (22, .ireturn, 1), (23, .iload_n 2, 1), (24, .tableswitch 86 0 4 #[36, 46, 56, 66, 76], 36), (60, .aload_n 0, 1), (61, .getfield 46, 3), (64, .getfield 215, 3), (67, .iload_n 1, 1), (68, .iaload, 1), (69, .ireturn, 1), (70, .aload_n 0, 1), (71, .getfield 46, 3), (74, .getfield 218, 3), (77, .iload_n 1, 1), (78, .iaload, 1), (79, .ireturn, 1), (80, .aload_n 0, 1), (81, .getfield 46, 3), (84, .getfield 221, 3), (87, .iload_n 1, 1), (88, .iaload, 1), (89, .ireturn, 1), (90, .aload_n 0, 1), (91, .getfield 53, 3), (94, .getfield 224, 3), (97, .iload_n 1, 1), (98, .iaload, 1), (99, .ireturn, 1), (100, .aload_n 0, 1), (101, .getfield 53, 3), (104, .getfield 227, 3), (107, .iload_n 1, 1), (108, .iaload, 1), (109, .ireturn, 1), (110, .bipush (-2), 2), (112, .ireturn, 1)]
set_option maxRecDepth 100000 in
theorem dtX7_line : allD cX7_line tbX7_line = true := by decide +kernel
theorem dX7_line_0 : decode cX7_line 0 = .ok (.aload_n 0, 1) := allD_get dtX7_line 0 rfl
theorem dX7_line_1 : decode cX7_line 1 = .ok (.invokevirtual 196, 3) := allD_get dtX7_line 1 rfl
theorem dX7_line_4 : decode cX7_line 4 = .ok (.iload_n 1, 1) := allD_get dtX7_line 2 rfl
theorem dX7_line_5 : decode cX7_line 5 = .ok (.iconst 0, 1) := allD_get dtX7_line 3 rfl
theorem dX7_line_6 : decode cX7_line 6 = .ok (.aload_n 0, 1) := allD_get dtX7_line 4 rfl
theorem dX7_line_7 : decode cX7_line 7 = .ok (.getfield 46, 3) := allD_get dtX7_line 5 rfl
theorem dX7_line_10 : decode cX7_line 10 = .ok (.getfield 212, 3) := allD_get dtX7_line 6 rfl
theorem dX7_line_13 : decode cX7_line 13 = .ok (.iconst 1, 1) := allD_get dtX7_line 7 rfl
theorem dX7_line_14 : decode cX7_line 14 = .ok (.isub, 1) := allD_get dtX7_line 8 rfl
theorem dX7_line_15 : decode cX7_line 15 = .ok (.invokestatic 110, 3) := allD_get dtX7_line 9 rfl
theorem dX7_line_18 : decode cX7_line 18 = .ok (.ifCond .ne 5, 3) := allD_get dtX7_line 10 rfl
theorem dX7_line_21 : decode cX7_line 21 = .ok (.iconst (-1), 1) := allD_get dtX7_line 11 rfl
theorem dX7_line_22 : decode cX7_line 22 = .ok (.ireturn, 1) := allD_get dtX7_line 12 rfl
theorem dX7_line_23 : decode cX7_line 23 = .ok (.iload_n 2, 1) := allD_get dtX7_line 13 rfl
theorem dX7_line_24 : decode cX7_line 24 = .ok (.tableswitch 86 0 4 #[36, 46, 56, 66, 76], 36) := allD_get dtX7_line 14 rfl
theorem dX7_line_60 : decode cX7_line 60 = .ok (.aload_n 0, 1) := allD_get dtX7_line 15 rfl
theorem dX7_line_61 : decode cX7_line 61 = .ok (.getfield 46, 3) := allD_get dtX7_line 16 rfl
theorem dX7_line_64 : decode cX7_line 64 = .ok (.getfield 215, 3) := allD_get dtX7_line 17 rfl
theorem dX7_line_67 : decode cX7_line 67 = .ok (.iload_n 1, 1) := allD_get dtX7_line 18 rfl
theorem dX7_line_68 : decode cX7_line 68 = .ok (.iaload, 1) := allD_get dtX7_line 19 rfl
theorem dX7_line_69 : decode cX7_line 69 = .ok (.ireturn, 1) := allD_get dtX7_line 20 rfl
theorem dX7_line_70 : decode cX7_line 70 = .ok (.aload_n 0, 1) := allD_get dtX7_line 21 rfl
theorem dX7_line_71 : decode cX7_line 71 = .ok (.getfield 46, 3) := allD_get dtX7_line 22 rfl
theorem dX7_line_74 : decode cX7_line 74 = .ok (.getfield 218, 3) := allD_get dtX7_line 23 rfl
theorem dX7_line_77 : decode cX7_line 77 = .ok (.iload_n 1, 1) := allD_get dtX7_line 24 rfl
theorem dX7_line_78 : decode cX7_line 78 = .ok (.iaload, 1) := allD_get dtX7_line 25 rfl
theorem dX7_line_79 : decode cX7_line 79 = .ok (.ireturn, 1) := allD_get dtX7_line 26 rfl
theorem dX7_line_80 : decode cX7_line 80 = .ok (.aload_n 0, 1) := allD_get dtX7_line 27 rfl
theorem dX7_line_81 : decode cX7_line 81 = .ok (.getfield 46, 3) := allD_get dtX7_line 28 rfl
theorem dX7_line_84 : decode cX7_line 84 = .ok (.getfield 221, 3) := allD_get dtX7_line 29 rfl
theorem dX7_line_87 : decode cX7_line 87 = .ok (.iload_n 1, 1) := allD_get dtX7_line 30 rfl
theorem dX7_line_88 : decode cX7_line 88 = .ok (.iaload, 1) := allD_get dtX7_line 31 rfl
theorem dX7_line_89 : decode cX7_line 89 = .ok (.ireturn, 1) := allD_get dtX7_line 32 rfl
theorem dX7_line_90 : decode cX7_line 90 = .ok (.aload_n 0, 1) := allD_get dtX7_line 33 rfl
theorem dX7_line_91 : decode cX7_line 91 = .ok (.getfield 53, 3) := allD_get dtX7_line 34 rfl
theorem dX7_line_94 : decode cX7_line 94 = .ok (.getfield 224, 3) := allD_get dtX7_line 35 rfl
theorem dX7_line_97 : decode cX7_line 97 = .ok (.iload_n 1, 1) := allD_get dtX7_line 36 rfl
theorem dX7_line_98 : decode cX7_line 98 = .ok (.iaload, 1) := allD_get dtX7_line 37 rfl
theorem dX7_line_99 : decode cX7_line 99 = .ok (.ireturn, 1) := allD_get dtX7_line 38 rfl
theorem dX7_line_100 : decode cX7_line 100 = .ok (.aload_n 0, 1) := allD_get dtX7_line 39 rfl
theorem dX7_line_101 : decode cX7_line 101 = .ok (.getfield 53, 3) := allD_get dtX7_line 40 rfl
theorem dX7_line_104 : decode cX7_line 104 = .ok (.getfield 227, 3) := allD_get dtX7_line 41 rfl
theorem dX7_line_107 : decode cX7_line 107 = .ok (.iload_n 1, 1) := allD_get dtX7_line 42 rfl
theorem dX7_line_108 : decode cX7_line 108 = .ok (.iaload, 1) := allD_get dtX7_line 43 rfl
theorem dX7_line_109 : decode cX7_line 109 = .ok (.ireturn, 1) := allD_get dtX7_line 44 rfl
theorem dX7_line_110 : decode cX7_line 110 = .ok (.bipush (-2), 2) := allD_get dtX7_line 45 rfl
theorem dX7_line_112 : decode cX7_line 112 = .ok (.ireturn, 1) := allD_get dtX7_line 46 rfl
def tbX7_word : List (Nat × Instr × Nat) := [(0, .aload_n 0, 1), (1, .invokevirtual 196, 3), (4, .iload_n 1, 1), (5, .iconst 0, 1), (6, .aload_n 0, 1), (7, .getfield 53, 3), (10, .getfield 230, 3), (13, .iconst 1, 1), (14, .isub, 1), (15, .invokestatic 110, 3), (18, .ifCond .ne 5, 3), (21, .iconst (-1), 1), (22, .ireturn, 1), (23, .iload_n 2, 1), (24, .tableswitch 86 0 4 #[36, 46, 56, 66, 76], 36), (60, .aload_n 0, 1), (61, .getfield 53, 3), (64, .getfield 231, 3), (67, .iload_n 1, 1), (68, .iaload, 1), (69, .ireturn, 1), (70, .aload_n 0, 1), (71, .getfield 53, 3), (74, .getfield 233, 3), (77, .iload_n 1, 1), (78, .iaload, 1), (79, .ireturn, 1), (80, .aload_n 0, 1), (81, .getfield 53, 3), (84, .getfield 234, 3), (87, .iload_n 1, 1), (88, .iaload, 1), (89, .ireturn, 1), (90, .aload_n 0, 1), (91, .getfield 53, 3), (94, .getfield 237, 3), (97, .iload_n 1, 1), (98, .iaload, 1), (99, .ireturn, 1), (100, .aload_n 0, 1), (101, .getfield 53, 3), (104, .getfield 240, 3), (107, .iload_n 1, 1), (108, .iaload, 1), (109, .ireturn, 1), (110, .bipush (-2), 2), (112, .ireturn, 1)]
set_option maxRecDepth 100000 in
theorem dtX7_word : allD cX7_word tbX7_word = true := by decide +kernel
theorem dX7_word_0 : decode cX7_word 0 = .ok (.aload_n 0, 1) := allD_get dtX7_word 0 rfl
theorem dX7_word_1 : decode cX7_word 1 = .ok (.invokevirtual 196, 3) := allD_get dtX7_word 1 rfl
theorem dX7_word_4 : decode cX7_word 4 = .ok (.iload_n 1, 1) := allD_get dtX7_word 2 rfl
theorem dX7_word_5 : decode cX7_word 5 = .ok (.iconst 0, 1) := allD_get dtX7_word 3 rfl
theorem dX7_word_6 : decode cX7_word 6 = .ok (.aload_n 0, 1) := allD_get dtX7_word 4 rfl
theorem dX7_word_7 : decode cX7_word 7 = .ok (.getfield 53, 3) := allD_get dtX7_word 5 rfl
theorem dX7_word_10 : decode cX7_word 10 = .ok (.getfield 230, 3) := allD_get dtX7_word 6 rfl
theorem dX7_word_13 : decode cX7_word 13 = .ok (.iconst 1, 1) := allD_get dtX7_word 7 rfl
theorem dX7_word_14 : decode cX7_word 14 = .ok (.isub, 1) := allD_get dtX7_word 8 rfl
theorem dX7_word_15 : decode cX7_word 15 = .ok (.invokestatic 110, 3) := allD_get dtX7_word 9 rfl
theorem dX7_word_18 : decode cX7_word 18 = .ok (.ifCond .ne 5, 3) := allD_get dtX7_word 10 rfl
theorem dX7_word_21 : decode cX7_word 21 = .ok (.iconst (-1), 1) := allD_get dtX7_word 11 rfl
theorem dX7_word_22 : decode cX7_word 22 = .ok (.ireturn, 1) := allD_get dtX7_word 12 rfl
theorem dX7_word_23 : decode cX7_word 23 = .ok (.iload_n 2, 1) := allD_get dtX7_word 13 rfl
theorem dX7_word_24 : decode cX7_word 24 = .ok (.tableswitch 86 0 4 #[36, 46, 56, 66, 76], 36) := allD_get dtX7_word 14 rfl
theorem dX7_word_60 : decode cX7_word 60 = .ok (.aload_n 0, 1) := allD_get dtX7_word 15 rfl
theorem dX7_word_61 : decode cX7_word 61 = .ok (.getfield 53, 3) := allD_get dtX7_word 16 rfl
theorem dX7_word_64 : decode cX7_word 64 = .ok (.getfield 231, 3) := allD_get dtX7_word 17 rfl
theorem dX7_word_67 : decode cX7_word 67 = .ok (.iload_n 1, 1) := allD_get dtX7_word 18 rfl
theorem dX7_word_68 : decode cX7_word 68 = .ok (.iaload, 1) := allD_get dtX7_word 19 rfl
theorem dX7_word_69 : decode cX7_word 69 = .ok (.ireturn, 1) := allD_get dtX7_word 20 rfl
theorem dX7_word_70 : decode cX7_word 70 = .ok (.aload_n 0, 1) := allD_get dtX7_word 21 rfl
theorem dX7_word_71 : decode cX7_word 71 = .ok (.getfield 53, 3) := allD_get dtX7_word 22 rfl
theorem dX7_word_74 : decode cX7_word 74 = .ok (.getfield 233, 3) := allD_get dtX7_word 23 rfl
theorem dX7_word_77 : decode cX7_word 77 = .ok (.iload_n 1, 1) := allD_get dtX7_word 24 rfl
theorem dX7_word_78 : decode cX7_word 78 = .ok (.iaload, 1) := allD_get dtX7_word 25 rfl
theorem dX7_word_79 : decode cX7_word 79 = .ok (.ireturn, 1) := allD_get dtX7_word 26 rfl
theorem dX7_word_80 : decode cX7_word 80 = .ok (.aload_n 0, 1) := allD_get dtX7_word 27 rfl
theorem dX7_word_81 : decode cX7_word 81 = .ok (.getfield 53, 3) := allD_get dtX7_word 28 rfl
theorem dX7_word_84 : decode cX7_word 84 = .ok (.getfield 234, 3) := allD_get dtX7_word 29 rfl
theorem dX7_word_87 : decode cX7_word 87 = .ok (.iload_n 1, 1) := allD_get dtX7_word 30 rfl
theorem dX7_word_88 : decode cX7_word 88 = .ok (.iaload, 1) := allD_get dtX7_word 31 rfl
theorem dX7_word_89 : decode cX7_word 89 = .ok (.ireturn, 1) := allD_get dtX7_word 32 rfl
theorem dX7_word_90 : decode cX7_word 90 = .ok (.aload_n 0, 1) := allD_get dtX7_word 33 rfl
theorem dX7_word_91 : decode cX7_word 91 = .ok (.getfield 53, 3) := allD_get dtX7_word 34 rfl
theorem dX7_word_94 : decode cX7_word 94 = .ok (.getfield 237, 3) := allD_get dtX7_word 35 rfl
theorem dX7_word_97 : decode cX7_word 97 = .ok (.iload_n 1, 1) := allD_get dtX7_word 36 rfl
theorem dX7_word_98 : decode cX7_word 98 = .ok (.iaload, 1) := allD_get dtX7_word 37 rfl
theorem dX7_word_99 : decode cX7_word 99 = .ok (.ireturn, 1) := allD_get dtX7_word 38 rfl
theorem dX7_word_100 : decode cX7_word 100 = .ok (.aload_n 0, 1) := allD_get dtX7_word 39 rfl
theorem dX7_word_101 : decode cX7_word 101 = .ok (.getfield 53, 3) := allD_get dtX7_word 40 rfl
theorem dX7_word_104 : decode cX7_word 104 = .ok (.getfield 240, 3) := allD_get dtX7_word 41 rfl
theorem dX7_word_107 : decode cX7_word 107 = .ok (.iload_n 1, 1) := allD_get dtX7_word 42 rfl
theorem dX7_word_108 : decode cX7_word 108 = .ok (.iaload, 1) := allD_get dtX7_word 43 rfl
theorem dX7_word_109 : decode cX7_word 109 = .ok (.ireturn, 1) := allD_get dtX7_word 44 rfl
theorem dX7_word_110 : decode cX7_word 110 = .ok (.bipush (-2), 2) := allD_get dtX7_word 45 rfl
theorem dX7_word_112 : decode cX7_word 112 = .ok (.ireturn, 1) := allD_get dtX7_word 46 rfl
def tbX7_setGap : List (Nat × Instr × Nat) := [(0, .iload_n 1, 1), (1, .iconst 0, 1), (2, .sipush 500, 3), (5, .invokestatic 110, 3), (8, .ifCond .ne 6, 3), (11, .bipush (-2), 2), (13, .ireturn, 1), (14, .aload_n 0, 1), (15, .getfield 64, 3), (18, .istore_n 2, 1), (19, .aload_n 0, 1), (20, .iload_n 1, 1), (21, .putfield 64, 3), (24, .iload_n 2, 1), (25, .ireturn, 1)]
set_option maxRecDepth 100000 in
theorem dtX7_setGap : allD cX7_setGap tbX7_setGap = true := by decide +kernel
theorem dX7_setGap_0 : decode cX7_setGap 0 = .ok (.iload_n 1, 1) := allD_get dtX7_setGap 0 rfl
theorem dX7_setGap_1 : decode cX7_setGap 1 = .ok (.iconst 0, 1) := allD_get dtX7_setGap 1 rfl
theorem dX7_setGap_2 : decode cX7_setGap 2 = .ok (.sipush 500, 3) := allD_get dtX7_setGap 2 rfl
theorem dX7_setGap_5 : decode cX7_setGap 5 = .ok (.invokestatic 110, 3) := allD_get dtX7_setGap 3 rfl
theorem dX7_setGap_8 : decode cX7_setGap 8 = .ok (.ifCond .ne 6, 3) := allD_get dtX7_setGap 4 rfl
theorem dX7_setGap_11 : decode cX7_setGap 11 = .ok (.bipush (-2), 2) := allD_get dtX7_setGap 5 rfl
theorem dX7_setGap_13 : decode cX7_setGap 13 = .ok (.ireturn, 1) := allD_get dtX7_setGap 6 rfl
theorem dX7_setGap_14 : decode cX7_setGap 14 = .ok (.aload_n 0, 1) := allD_get dtX7_setGap 7 rfl
theorem dX7_setGap_15 : decode cX7_setGap 15 = .ok (.getfield 64, 3) := allD_get dtX7_setGap 8 rfl
theorem dX7_setGap_18 : decode cX7_setGap 18 = .ok (.istore_n 2, 1) := allD_get dtX7_setGap 9 rfl
theorem dX7_setGap_19 : decode cX7_setGap 19 = .ok (.aload_n 0, 1) := allD_get dtX7_setGap 10 rfl
theorem dX7_setGap_20 : decode cX7_setGap 20 = .ok (.iload_n 1, 1) := allD_get dtX7_setGap 11 rfl
theorem dX7_setGap_21 : decode cX7_setGap 21 = .ok (.putfield 64, 3) := allD_get dtX7_setGap 12 rfl
theorem dX7_setGap_24 : decode cX7_setGap 24 = .ok (.iload_n 2, 1) := allD_get dtX7_setGap 13 rfl
theorem dX7_setGap_25 : decode cX7_setGap 25 = .ok (.ireturn, 1) := allD_get dtX7_setGap 14 rfl
def tbX7_nearest : List (Nat × Instr × Nat) := [(0, .iload_n 1, 1), (1, .invokestatic 68, 3), (4, .ifCond .eq 10, 3), (7, .iload_n 2, 1), (8, .invokestatic 68, 3), (11, .ifCond .ne 6, 3), (14, .bipush (-2), 2), (16, .ireturn, 1), (17, .bipush (-5), 2), (19, .istore_n 3, 1), (20, .iconst 0, 1), (21, .istore 4, 2), (23, .iconst 0, 1), (24, .istore 5, 2), (26, .iload 5, 2), (28, .aload_n 0, 1), (29, .getfield 26, 3), (32, .getfield 107, 3), (35, .if_icmp .ge 83, 3), (38, .iconst 0, 1), (39, .istore 6, 2), (41, .iload 6, 2), (43, .aload_n 0, 1), (44, .getfield 26, 3), (47, .iload 5, 2), (49, .invokevirtual 115, 3), (52, .if_icmp .ge 60, 3), (55, .aload_n 0, 1), (56, .getfield 26, 3), (59, .iload 5, 2), (61, .iload 6, 2), (63, .invokevirtual 118, 3), (66, .iload_n 1, 1), (67, .isub, 1), (68, .aload_n 0, 1), (69, .getfield 26, 3), (72, .iload 5, 2), (74, .iload 6, 2), (76, .invokevirtual 122, 3), (79, .iload_n 2, 1), (80, .isub, 1), (81, .invokestatic 125, 3), (84, .istore 7, 2), (86, .iload_n 3, 1), (87, .bipush (-5), 2), (89, .if_icmp .eq 10, 3), (92, .iload 7, 2), (94, .iload 4, 2), (96, .if_icmp .ge 10, 3), (99, .iload 5, 2), (101, .istore_n 3, 1), (102, .iload 7, 2), (104, .istore 4, 2), (106, .iinc 6 1, 3), (109, .goto (-68), 3), (112, .iinc 5 1, 3), (115, .goto (-89), 3), (118, .iload_n 3, 1), (119, .ireturn, 1)]
set_option maxRecDepth 100000 in
theorem dtX7_nearest : allD cX7_nearest tbX7_nearest = true := by decide +kernel
theorem dX7_nearest_0 : decode cX7_nearest 0 = .ok (.iload_n 1, 1) := allD_get dtX7_nearest 0 rfl
theorem dX7_nearest_1 : decode cX7_nearest 1 = .ok (.invokestatic 68, 3) := allD_get dtX7_nearest 1 rfl
theorem dX7_nearest_4 : decode cX7_nearest 4 = .ok (.ifCond .eq 10, 3) := allD_get dtX7_nearest 2 rfl
theorem dX7_nearest_7 : decode cX7_nearest 7 = .ok (.iload_n 2, 1) := allD_get dtX7_nearest 3 rfl
theorem dX7_nearest_8 : decode cX7_nearest 8 = .ok (.invokestatic 68, 3) := allD_get dtX7_nearest 4 rfl
theorem dX7_nearest_11 : decode cX7_nearest 11 = .ok (.ifCond .ne 6, 3) := allD_get dtX7_nearest 5 rfl
theorem dX7_nearest_14 : decode cX7_nearest 14 = .ok (.bipush (-2), 2) := allD_get dtX7_nearest 6 rfl
theorem dX7_nearest_16 : decode cX7_nearest 16 = .ok (.ireturn, 1) := allD_get dtX7_nearest 7 rfl
theorem dX7_nearest_17 : decode cX7_nearest 17 = .ok (.bipush (-5), 2) := allD_get dtX7_nearest 8 rfl
theorem dX7_nearest_19 : decode cX7_nearest 19 = .ok (.istore_n 3, 1) := allD_get dtX7_nearest 9 rfl
theorem dX7_nearest_20 : decode cX7_nearest 20 = .ok (.iconst 0, 1) := allD_get dtX7_nearest 10 rfl
theorem dX7_nearest_21 : decode cX7_nearest 21 = .ok (.istore 4, 2) := allD_get dtX7_nearest 11 rfl
theorem dX7_nearest_23 : decode cX7_nearest 23 = .ok (.iconst 0, 1) := allD_get dtX7_nearest 12 rfl
theorem dX7_nearest_24 : decode cX7_nearest 24 = .ok (.istore 5, 2) := allD_get dtX7_nearest 13 rfl
theorem dX7_nearest_26 : decode cX7_nearest 26 = .ok (.iload 5, 2) := allD_get dtX7_nearest 14 rfl
theorem dX7_nearest_28 : decode cX7_nearest 28 = .ok (.aload_n 0, 1) := allD_get dtX7_nearest 15 rfl
theorem dX7_nearest_29 : decode cX7_nearest 29 = .ok (.getfield 26, 3) := allD_get dtX7_nearest 16 rfl
theorem dX7_nearest_32 : decode cX7_nearest 32 = .ok (.getfield 107, 3) := allD_get dtX7_nearest 17 rfl
theorem dX7_nearest_35 : decode cX7_nearest 35 = .ok (.if_icmp .ge 83, 3) := allD_get dtX7_nearest 18 rfl
theorem dX7_nearest_38 : decode cX7_nearest 38 = .ok (.iconst 0, 1) := allD_get dtX7_nearest 19 rfl
theorem dX7_nearest_39 : decode cX7_nearest 39 = .ok (.istore 6, 2) := allD_get dtX7_nearest 20 rfl
theorem dX7_nearest_41 : decode cX7_nearest 41 = .ok (.iload 6, 2) := allD_get dtX7_nearest 21 rfl
theorem dX7_nearest_43 : decode cX7_nearest 43 = .ok (.aload_n 0, 1) := allD_get dtX7_nearest 22 rfl
theorem dX7_nearest_44 : decode cX7_nearest 44 = .ok (.getfield 26, 3) := allD_get dtX7_nearest 23 rfl
theorem dX7_nearest_47 : decode cX7_nearest 47 = .ok (.iload 5, 2) := allD_get dtX7_nearest 24 rfl
theorem dX7_nearest_49 : decode cX7_nearest 49 = .ok (.invokevirtual 115, 3) := allD_get dtX7_nearest 25 rfl
theorem dX7_nearest_52 : decode cX7_nearest 52 = .ok (.if_icmp .ge 60, 3) := allD_get dtX7_nearest 26 rfl
theorem dX7_nearest_55 : decode cX7_nearest 55 = .ok (.aload_n 0, 1) := allD_get dtX7_nearest 27 rfl
theorem dX7_nearest_56 : decode cX7_nearest 56 = .ok (.getfield 26, 3) := allD_get dtX7_nearest 28 rfl
theorem dX7_nearest_59 : decode cX7_nearest 59 = .ok (.iload 5, 2) := allD_get dtX7_nearest 29 rfl
theorem dX7_nearest_61 : decode cX7_nearest 61 = .ok (.iload 6, 2) := allD_get dtX7_nearest 30 rfl
theorem dX7_nearest_63 : decode cX7_nearest 63 = .ok (.invokevirtual 118, 3) := allD_get dtX7_nearest 31 rfl
theorem dX7_nearest_66 : decode cX7_nearest 66 = .ok (.iload_n 1, 1) := allD_get dtX7_nearest 32 rfl
theorem dX7_nearest_67 : decode cX7_nearest 67 = .ok (.isub, 1) := allD_get dtX7_nearest 33 rfl
theorem dX7_nearest_68 : decode cX7_nearest 68 = .ok (.aload_n 0, 1) := allD_get dtX7_nearest 34 rfl
theorem dX7_nearest_69 : decode cX7_nearest 69 = .ok (.getfield 26, 3) := allD_get dtX7_nearest 35 rfl
theorem dX7_nearest_72 : decode cX7_nearest 72 = .ok (.iload 5, 2) := allD_get dtX7_nearest 36 rfl
theorem dX7_nearest_74 : decode cX7_nearest 74 = .ok (.iload 6, 2) := allD_get dtX7_nearest 37 rfl
theorem dX7_nearest_76 : decode cX7_nearest 76 = .ok (.invokevirtual 122, 3) := allD_get dtX7_nearest 38 rfl
theorem dX7_nearest_79 : decode cX7_nearest 79 = .ok (.iload_n 2, 1) := allD_get dtX7_nearest 39 rfl
theorem dX7_nearest_80 : decode cX7_nearest 80 = .ok (.isub, 1) := allD_get dtX7_nearest 40 rfl
theorem dX7_nearest_81 : decode cX7_nearest 81 = .ok (.invokestatic 125, 3) := allD_get dtX7_nearest 41 rfl
theorem dX7_nearest_84 : decode cX7_nearest 84 = .ok (.istore 7, 2) := allD_get dtX7_nearest 42 rfl
theorem dX7_nearest_86 : decode cX7_nearest 86 = .ok (.iload_n 3, 1) := allD_get dtX7_nearest 43 rfl
theorem dX7_nearest_87 : decode cX7_nearest 87 = .ok (.bipush (-5), 2) := allD_get dtX7_nearest 44 rfl
theorem dX7_nearest_89 : decode cX7_nearest 89 = .ok (.if_icmp .eq 10, 3) := allD_get dtX7_nearest 45 rfl
theorem dX7_nearest_92 : decode cX7_nearest 92 = .ok (.iload 7, 2) := allD_get dtX7_nearest 46 rfl
theorem dX7_nearest_94 : decode cX7_nearest 94 = .ok (.iload 4, 2) := allD_get dtX7_nearest 47 rfl
theorem dX7_nearest_96 : decode cX7_nearest 96 = .ok (.if_icmp .ge 10, 3) := allD_get dtX7_nearest 48 rfl
theorem dX7_nearest_99 : decode cX7_nearest 99 = .ok (.iload 5, 2) := allD_get dtX7_nearest 49 rfl
theorem dX7_nearest_101 : decode cX7_nearest 101 = .ok (.istore_n 3, 1) := allD_get dtX7_nearest 50 rfl
theorem dX7_nearest_102 : decode cX7_nearest 102 = .ok (.iload 7, 2) := allD_get dtX7_nearest 51 rfl
theorem dX7_nearest_104 : decode cX7_nearest 104 = .ok (.istore 4, 2) := allD_get dtX7_nearest 52 rfl
theorem dX7_nearest_106 : decode cX7_nearest 106 = .ok (.iinc 6 1, 3) := allD_get dtX7_nearest 53 rfl
theorem dX7_nearest_109 : decode cX7_nearest 109 = .ok (.goto (-68), 3) := allD_get dtX7_nearest 54 rfl
theorem dX7_nearest_112 : decode cX7_nearest 112 = .ok (.iinc 5 1, 3) := allD_get dtX7_nearest 55 rfl
theorem dX7_nearest_115 : decode cX7_nearest 115 = .ok (.goto (-89), 3) := allD_get dtX7_nearest 56 rfl
theorem dX7_nearest_118 : decode cX7_nearest 118 = .ok (.iload_n 3, 1) := allD_get dtX7_nearest 57 rfl
theorem dX7_nearest_119 : decode cX7_nearest 119 = .ok (.ireturn, 1) := allD_get dtX7_nearest 58 rfl
def tbX7_cell : List (Nat × Instr × Nat) := [(0, .iload_n 1, 1), (1, .invokestatic 68, 3), (4, .ifCond .eq 10, 3), (7, .iload_n 2, 1), (8, .invokestatic 68, 3), (11, .ifCond .ne 6, 3), (14, .bipush (-2), 2), (16, .ireturn, 1), (17, .iload_n 1, 1), (18, .iload_n 2, 1), (19, .invokestatic 243, 3), (22, .istore_n 3, 1), (23, .iconst 0, 1), (24, .istore 4, 2), (26, .iconst 0, 1), (27, .istore 5, 2), (29, .iload 5, 2), (31, .aload_n 0, 1), (32, .getfield 26, 3), (35, .getfield 107, 3), (38, .if_icmp .ge 64, 3), (41, .iconst 0, 1), (42, .istore 6, 2), (44, .iload 6, 2), (46, .aload_n 0, 1), (47, .getfield 26, 3), (50, .iload 5, 2), (52, .invokevirtual 115, 3), (55, .if_icmp .ge 41, 3), (58, .aload_n 0, 1), (59, .getfield 26, 3), (62, .iload 5, 2), (64, .iload 6, 2), (66, .invokevirtual 118, 3), (69, .aload_n 0, 1), (70, .getfield 26, 3), (73, .iload 5, 2), (75, .iload 6, 2), (77, .invokevirtual 122, 3), (80, .invokestatic 243, 3), (83, .iload_n 3, 1), (84, .if_icmp .ne 6, 3), (87, .iinc 4 1, 3), (90, .iinc 6 1, 3), (93, .goto (-49), 3), (96, .iinc 5 1, 3), (99, .goto (-70), 3), (102, .iload 4, 2), (104, .ireturn, 1)]
set_option maxRecDepth 100000 in
theorem dtX7_cell : allD cX7_cell tbX7_cell = true := by decide +kernel
theorem dX7_cell_0 : decode cX7_cell 0 = .ok (.iload_n 1, 1) := allD_get dtX7_cell 0 rfl
theorem dX7_cell_1 : decode cX7_cell 1 = .ok (.invokestatic 68, 3) := allD_get dtX7_cell 1 rfl
theorem dX7_cell_4 : decode cX7_cell 4 = .ok (.ifCond .eq 10, 3) := allD_get dtX7_cell 2 rfl
theorem dX7_cell_7 : decode cX7_cell 7 = .ok (.iload_n 2, 1) := allD_get dtX7_cell 3 rfl
theorem dX7_cell_8 : decode cX7_cell 8 = .ok (.invokestatic 68, 3) := allD_get dtX7_cell 4 rfl
theorem dX7_cell_11 : decode cX7_cell 11 = .ok (.ifCond .ne 6, 3) := allD_get dtX7_cell 5 rfl
theorem dX7_cell_14 : decode cX7_cell 14 = .ok (.bipush (-2), 2) := allD_get dtX7_cell 6 rfl
theorem dX7_cell_16 : decode cX7_cell 16 = .ok (.ireturn, 1) := allD_get dtX7_cell 7 rfl
theorem dX7_cell_17 : decode cX7_cell 17 = .ok (.iload_n 1, 1) := allD_get dtX7_cell 8 rfl
theorem dX7_cell_18 : decode cX7_cell 18 = .ok (.iload_n 2, 1) := allD_get dtX7_cell 9 rfl
theorem dX7_cell_19 : decode cX7_cell 19 = .ok (.invokestatic 243, 3) := allD_get dtX7_cell 10 rfl
theorem dX7_cell_22 : decode cX7_cell 22 = .ok (.istore_n 3, 1) := allD_get dtX7_cell 11 rfl
theorem dX7_cell_23 : decode cX7_cell 23 = .ok (.iconst 0, 1) := allD_get dtX7_cell 12 rfl
theorem dX7_cell_24 : decode cX7_cell 24 = .ok (.istore 4, 2) := allD_get dtX7_cell 13 rfl
theorem dX7_cell_26 : decode cX7_cell 26 = .ok (.iconst 0, 1) := allD_get dtX7_cell 14 rfl
theorem dX7_cell_27 : decode cX7_cell 27 = .ok (.istore 5, 2) := allD_get dtX7_cell 15 rfl
theorem dX7_cell_29 : decode cX7_cell 29 = .ok (.iload 5, 2) := allD_get dtX7_cell 16 rfl
theorem dX7_cell_31 : decode cX7_cell 31 = .ok (.aload_n 0, 1) := allD_get dtX7_cell 17 rfl
theorem dX7_cell_32 : decode cX7_cell 32 = .ok (.getfield 26, 3) := allD_get dtX7_cell 18 rfl
theorem dX7_cell_35 : decode cX7_cell 35 = .ok (.getfield 107, 3) := allD_get dtX7_cell 19 rfl
theorem dX7_cell_38 : decode cX7_cell 38 = .ok (.if_icmp .ge 64, 3) := allD_get dtX7_cell 20 rfl
theorem dX7_cell_41 : decode cX7_cell 41 = .ok (.iconst 0, 1) := allD_get dtX7_cell 21 rfl
theorem dX7_cell_42 : decode cX7_cell 42 = .ok (.istore 6, 2) := allD_get dtX7_cell 22 rfl
theorem dX7_cell_44 : decode cX7_cell 44 = .ok (.iload 6, 2) := allD_get dtX7_cell 23 rfl
theorem dX7_cell_46 : decode cX7_cell 46 = .ok (.aload_n 0, 1) := allD_get dtX7_cell 24 rfl
theorem dX7_cell_47 : decode cX7_cell 47 = .ok (.getfield 26, 3) := allD_get dtX7_cell 25 rfl
theorem dX7_cell_50 : decode cX7_cell 50 = .ok (.iload 5, 2) := allD_get dtX7_cell 26 rfl
theorem dX7_cell_52 : decode cX7_cell 52 = .ok (.invokevirtual 115, 3) := allD_get dtX7_cell 27 rfl
theorem dX7_cell_55 : decode cX7_cell 55 = .ok (.if_icmp .ge 41, 3) := allD_get dtX7_cell 28 rfl
theorem dX7_cell_58 : decode cX7_cell 58 = .ok (.aload_n 0, 1) := allD_get dtX7_cell 29 rfl
theorem dX7_cell_59 : decode cX7_cell 59 = .ok (.getfield 26, 3) := allD_get dtX7_cell 30 rfl
theorem dX7_cell_62 : decode cX7_cell 62 = .ok (.iload 5, 2) := allD_get dtX7_cell 31 rfl
theorem dX7_cell_64 : decode cX7_cell 64 = .ok (.iload 6, 2) := allD_get dtX7_cell 32 rfl
theorem dX7_cell_66 : decode cX7_cell 66 = .ok (.invokevirtual 118, 3) := allD_get dtX7_cell 33 rfl
theorem dX7_cell_69 : decode cX7_cell 69 = .ok (.aload_n 0, 1) := allD_get dtX7_cell 34 rfl
theorem dX7_cell_70 : decode cX7_cell 70 = .ok (.getfield 26, 3) := allD_get dtX7_cell 35 rfl
theorem dX7_cell_73 : decode cX7_cell 73 = .ok (.iload 5, 2) := allD_get dtX7_cell 36 rfl
theorem dX7_cell_75 : decode cX7_cell 75 = .ok (.iload 6, 2) := allD_get dtX7_cell 37 rfl
theorem dX7_cell_77 : decode cX7_cell 77 = .ok (.invokevirtual 122, 3) := allD_get dtX7_cell 38 rfl
theorem dX7_cell_80 : decode cX7_cell 80 = .ok (.invokestatic 243, 3) := allD_get dtX7_cell 39 rfl
theorem dX7_cell_83 : decode cX7_cell 83 = .ok (.iload_n 3, 1) := allD_get dtX7_cell 40 rfl
theorem dX7_cell_84 : decode cX7_cell 84 = .ok (.if_icmp .ne 6, 3) := allD_get dtX7_cell 41 rfl
theorem dX7_cell_87 : decode cX7_cell 87 = .ok (.iinc 4 1, 3) := allD_get dtX7_cell 42 rfl
theorem dX7_cell_90 : decode cX7_cell 90 = .ok (.iinc 6 1, 3) := allD_get dtX7_cell 43 rfl
theorem dX7_cell_93 : decode cX7_cell 93 = .ok (.goto (-49), 3) := allD_get dtX7_cell 44 rfl
theorem dX7_cell_96 : decode cX7_cell 96 = .ok (.iinc 5 1, 3) := allD_get dtX7_cell 45 rfl
theorem dX7_cell_99 : decode cX7_cell 99 = .ok (.goto (-70), 3) := allD_get dtX7_cell 46 rfl
theorem dX7_cell_102 : decode cX7_cell 102 = .ok (.iload 4, 2) := allD_get dtX7_cell 47 rfl
theorem dX7_cell_104 : decode cX7_cell 104 = .ok (.ireturn, 1) := allD_get dtX7_cell 48 rfl
def tbX7_color : List (Nat × Instr × Nat) := [(0, .iload_n 1, 1), (1, .invokestatic 97, 3), (4, .ifCond .ne 6, 3), (7, .bipush (-2), 2), (9, .ireturn, 1), (10, .iload_n 2, 1), (11, .tableswitch 76 0 3 #[29, 38, 47, 56], 29), (40, .aload_n 0, 1), (41, .getfield 26, 3), (44, .iload_n 1, 1), (45, .invokevirtual 246, 3), (48, .ireturn, 1), (49, .aload_n 0, 1), (50, .getfield 26, 3), (53, .iload_n 1, 1), (54, .invokevirtual 249, 3), (57, .ireturn, 1), (58, .aload_n 0, 1), (59, .getfield 26, 3), (62, .iload_n 1, 1), (63, .invokevirtual 252, 3), (66, .ireturn, 1), (67, .aload_n 0, 1), (68, .getfield 60, 3), (71, .aload_n 0, 1), (72, .getfield 26, 3), (75, .iload_n 1, 1), (76, .invokevirtual 255, 3), (79, .aload_n 0, 1), (80, .getfield 60, 3), (83, .getfield 256, 3), (86, .ireturn, 1), (87, .bipush (-2), 2), (89, .ireturn, 1)]
set_option maxRecDepth 100000 in
theorem dtX7_color : allD cX7_color tbX7_color = true := by decide +kernel
theorem dX7_color_0 : decode cX7_color 0 = .ok (.iload_n 1, 1) := allD_get dtX7_color 0 rfl
theorem dX7_color_1 : decode cX7_color 1 = .ok (.invokestatic 97, 3) := allD_get dtX7_color 1 rfl
theorem dX7_color_4 : decode cX7_color 4 = .ok (.ifCond .ne 6, 3) := allD_get dtX7_color 2 rfl
theorem dX7_color_7 : decode cX7_color 7 = .ok (.bipush (-2), 2) := allD_get dtX7_color 3 rfl
theorem dX7_color_9 : decode cX7_color 9 = .ok (.ireturn, 1) := allD_get dtX7_color 4 rfl
theorem dX7_color_10 : decode cX7_color 10 = .ok (.iload_n 2, 1) := allD_get dtX7_color 5 rfl
theorem dX7_color_11 : decode cX7_color 11 = .ok (.tableswitch 76 0 3 #[29, 38, 47, 56], 29) := allD_get dtX7_color 6 rfl
theorem dX7_color_40 : decode cX7_color 40 = .ok (.aload_n 0, 1) := allD_get dtX7_color 7 rfl
theorem dX7_color_41 : decode cX7_color 41 = .ok (.getfield 26, 3) := allD_get dtX7_color 8 rfl
theorem dX7_color_44 : decode cX7_color 44 = .ok (.iload_n 1, 1) := allD_get dtX7_color 9 rfl
theorem dX7_color_45 : decode cX7_color 45 = .ok (.invokevirtual 246, 3) := allD_get dtX7_color 10 rfl
theorem dX7_color_48 : decode cX7_color 48 = .ok (.ireturn, 1) := allD_get dtX7_color 11 rfl
theorem dX7_color_49 : decode cX7_color 49 = .ok (.aload_n 0, 1) := allD_get dtX7_color 12 rfl
theorem dX7_color_50 : decode cX7_color 50 = .ok (.getfield 26, 3) := allD_get dtX7_color 13 rfl
theorem dX7_color_53 : decode cX7_color 53 = .ok (.iload_n 1, 1) := allD_get dtX7_color 14 rfl
theorem dX7_color_54 : decode cX7_color 54 = .ok (.invokevirtual 249, 3) := allD_get dtX7_color 15 rfl
theorem dX7_color_57 : decode cX7_color 57 = .ok (.ireturn, 1) := allD_get dtX7_color 16 rfl
theorem dX7_color_58 : decode cX7_color 58 = .ok (.aload_n 0, 1) := allD_get dtX7_color 17 rfl
theorem dX7_color_59 : decode cX7_color 59 = .ok (.getfield 26, 3) := allD_get dtX7_color 18 rfl
theorem dX7_color_62 : decode cX7_color 62 = .ok (.iload_n 1, 1) := allD_get dtX7_color 19 rfl
theorem dX7_color_63 : decode cX7_color 63 = .ok (.invokevirtual 252, 3) := allD_get dtX7_color 20 rfl
theorem dX7_color_66 : decode cX7_color 66 = .ok (.ireturn, 1) := allD_get dtX7_color 21 rfl
theorem dX7_color_67 : decode cX7_color 67 = .ok (.aload_n 0, 1) := allD_get dtX7_color 22 rfl
theorem dX7_color_68 : decode cX7_color 68 = .ok (.getfield 60, 3) := allD_get dtX7_color 23 rfl
theorem dX7_color_71 : decode cX7_color 71 = .ok (.aload_n 0, 1) := allD_get dtX7_color 24 rfl
theorem dX7_color_72 : decode cX7_color 72 = .ok (.getfield 26, 3) := allD_get dtX7_color 25 rfl
theorem dX7_color_75 : decode cX7_color 75 = .ok (.iload_n 1, 1) := allD_get dtX7_color 26 rfl
theorem dX7_color_76 : decode cX7_color 76 = .ok (.invokevirtual 255, 3) := allD_get dtX7_color 27 rfl
theorem dX7_color_79 : decode cX7_color 79 = .ok (.aload_n 0, 1) := allD_get dtX7_color 28 rfl
theorem dX7_color_80 : decode cX7_color 80 = .ok (.getfield 60, 3) := allD_get dtX7_color 29 rfl
theorem dX7_color_83 : decode cX7_color 83 = .ok (.getfield 256, 3) := allD_get dtX7_color 30 rfl
theorem dX7_color_86 : decode cX7_color 86 = .ok (.ireturn, 1) := allD_get dtX7_color 31 rfl
theorem dX7_color_87 : decode cX7_color 87 = .ok (.bipush (-2), 2) := allD_get dtX7_color 32 rfl
theorem dX7_color_89 : decode cX7_color 89 = .ok (.ireturn, 1) := allD_get dtX7_color 33 rfl
def tbX7_count : List (Nat × Instr × Nat) := [(0, .iload_n 1, 1), (1, .tableswitch 178 0 10 #[59, 67, 76, 85, 97, 109, 129, 149, 157, 165, 173], 59), (60, .aload_n 0, 1), (61, .getfield 26, 3), (64, .getfield 107, 3), (67, .ireturn, 1), (68, .aload_n 0, 1), (69, .getfield 26, 3), (72, .iconst (-1), 1), (73, .invokevirtual 249, 3), (76, .ireturn, 1), (77, .aload_n 0, 1), (78, .getfield 26, 3), (81, .iconst (-1), 1), (82, .invokevirtual 252, 3), (85, .ireturn, 1), (86, .aload_n 0, 1), (87, .invokevirtual 196, 3), (90, .aload_n 0, 1), (91, .getfield 46, 3), (94, .getfield 212, 3), (97, .ireturn, 1), (98, .aload_n 0, 1), (99, .invokevirtual 196, 3), (102, .aload_n 0, 1), (103, .getfield 53, 3), (106, .getfield 230, 3), (109, .ireturn, 1), (110, .aload_n 0, 1), (111, .getfield 60, 3), (114, .aload_n 0, 1), (115, .getfield 26, 3), (118, .iconst (-1), 1), (119, .invokevirtual 255, 3), (122, .aload_n 0, 1), (123, .getfield 60, 3), (126, .getfield 256, 3), (129, .ireturn, 1), (130, .aload_n 0, 1), (131, .getfield 60, 3), (134, .aload_n 0, 1), (135, .getfield 26, 3), (138, .iconst (-1), 1), (139, .invokevirtual 255, 3), (142, .aload_n 0, 1), (143, .getfield 60, 3), (146, .getfield 259, 3), (149, .ireturn, 1), (150, .aload_n 0, 1), (151, .getfield 12, 3), (154, .getfield 72, 3), (157, .ireturn, 1), (158, .aload_n 0, 1), (159, .getfield 39, 3), (162, .getfield 182, 3), (165, .ireturn, 1), (166, .aload_n 0, 1), (167, .getfield 39, 3), (170, .getfield 188, 3), (173, .ireturn, 1), (174, .aload_n 0, 1), (175, .getfield 64, 3), (178, .ireturn, 1), (179, .bipush (-2), 2), (181, .ireturn, 1)]
set_option maxRecDepth 100000 in
theorem dtX7_count : allD cX7_count tbX7_count = true := by decide +kernel
theorem dX7_count_0 : decode cX7_count 0 = .ok (.iload_n 1, 1) := allD_get dtX7_count 0 rfl
theorem dX7_count_1 : decode cX7_count 1 = .ok (.tableswitch 178 0 10 #[59, 67, 76, 85, 97, 109, 129, 149, 157, 165, 173], 59) := allD_get dtX7_count 1 rfl
theorem dX7_count_60 : decode cX7_count 60 = .ok (.aload_n 0, 1) := allD_get dtX7_count 2 rfl
theorem dX7_count_61 : decode cX7_count 61 = .ok (.getfield 26, 3) := allD_get dtX7_count 3 rfl
theorem dX7_count_64 : decode cX7_count 64 = .ok (.getfield 107, 3) := allD_get dtX7_count 4 rfl
theorem dX7_count_67 : decode cX7_count 67 = .ok (.ireturn, 1) := allD_get dtX7_count 5 rfl
theorem dX7_count_68 : decode cX7_count 68 = .ok (.aload_n 0, 1) := allD_get dtX7_count 6 rfl
theorem dX7_count_69 : decode cX7_count 69 = .ok (.getfield 26, 3) := allD_get dtX7_count 7 rfl
theorem dX7_count_72 : decode cX7_count 72 = .ok (.iconst (-1), 1) := allD_get dtX7_count 8 rfl
theorem dX7_count_73 : decode cX7_count 73 = .ok (.invokevirtual 249, 3) := allD_get dtX7_count 9 rfl
theorem dX7_count_76 : decode cX7_count 76 = .ok (.ireturn, 1) := allD_get dtX7_count 10 rfl
theorem dX7_count_77 : decode cX7_count 77 = .ok (.aload_n 0, 1) := allD_get dtX7_count 11 rfl
theorem dX7_count_78 : decode cX7_count 78 = .ok (.getfield 26, 3) := allD_get dtX7_count 12 rfl
theorem dX7_count_81 : decode cX7_count 81 = .ok (.iconst (-1), 1) := allD_get dtX7_count 13 rfl
theorem dX7_count_82 : decode cX7_count 82 = .ok (.invokevirtual 252, 3) := allD_get dtX7_count 14 rfl
theorem dX7_count_85 : decode cX7_count 85 = .ok (.ireturn, 1) := allD_get dtX7_count 15 rfl
theorem dX7_count_86 : decode cX7_count 86 = .ok (.aload_n 0, 1) := allD_get dtX7_count 16 rfl
theorem dX7_count_87 : decode cX7_count 87 = .ok (.invokevirtual 196, 3) := allD_get dtX7_count 17 rfl
theorem dX7_count_90 : decode cX7_count 90 = .ok (.aload_n 0, 1) := allD_get dtX7_count 18 rfl
theorem dX7_count_91 : decode cX7_count 91 = .ok (.getfield 46, 3) := allD_get dtX7_count 19 rfl
theorem dX7_count_94 : decode cX7_count 94 = .ok (.getfield 212, 3) := allD_get dtX7_count 20 rfl
theorem dX7_count_97 : decode cX7_count 97 = .ok (.ireturn, 1) := allD_get dtX7_count 21 rfl
theorem dX7_count_98 : decode cX7_count 98 = .ok (.aload_n 0, 1) := allD_get dtX7_count 22 rfl
theorem dX7_count_99 : decode cX7_count 99 = .ok (.invokevirtual 196, 3) := allD_get dtX7_count 23 rfl
theorem dX7_count_102 : decode cX7_count 102 = .ok (.aload_n 0, 1) := allD_get dtX7_count 24 rfl
theorem dX7_count_103 : decode cX7_count 103 = .ok (.getfield 53, 3) := allD_get dtX7_count 25 rfl
theorem dX7_count_106 : decode cX7_count 106 = .ok (.getfield 230, 3) := allD_get dtX7_count 26 rfl
theorem dX7_count_109 : decode cX7_count 109 = .ok (.ireturn, 1) := allD_get dtX7_count 27 rfl
theorem dX7_count_110 : decode cX7_count 110 = .ok (.aload_n 0, 1) := allD_get dtX7_count 28 rfl
theorem dX7_count_111 : decode cX7_count 111 = .ok (.getfield 60, 3) := allD_get dtX7_count 29 rfl
theorem dX7_count_114 : decode cX7_count 114 = .ok (.aload_n 0, 1) := allD_get dtX7_count 30 rfl
theorem dX7_count_115 : decode cX7_count 115 = .ok (.getfield 26, 3) := allD_get dtX7_count 31 rfl
theorem dX7_count_118 : decode cX7_count 118 = .ok (.iconst (-1), 1) := allD_get dtX7_count 32 rfl
theorem dX7_count_119 : decode cX7_count 119 = .ok (.invokevirtual 255, 3) := allD_get dtX7_count 33 rfl
theorem dX7_count_122 : decode cX7_count 122 = .ok (.aload_n 0, 1) := allD_get dtX7_count 34 rfl
theorem dX7_count_123 : decode cX7_count 123 = .ok (.getfield 60, 3) := allD_get dtX7_count 35 rfl
theorem dX7_count_126 : decode cX7_count 126 = .ok (.getfield 256, 3) := allD_get dtX7_count 36 rfl
theorem dX7_count_129 : decode cX7_count 129 = .ok (.ireturn, 1) := allD_get dtX7_count 37 rfl
theorem dX7_count_130 : decode cX7_count 130 = .ok (.aload_n 0, 1) := allD_get dtX7_count 38 rfl
theorem dX7_count_131 : decode cX7_count 131 = .ok (.getfield 60, 3) := allD_get dtX7_count 39 rfl
theorem dX7_count_134 : decode cX7_count 134 = .ok (.aload_n 0, 1) := allD_get dtX7_count 40 rfl
theorem dX7_count_135 : decode cX7_count 135 = .ok (.getfield 26, 3) := allD_get dtX7_count 41 rfl
theorem dX7_count_138 : decode cX7_count 138 = .ok (.iconst (-1), 1) := allD_get dtX7_count 42 rfl
theorem dX7_count_139 : decode cX7_count 139 = .ok (.invokevirtual 255, 3) := allD_get dtX7_count 43 rfl
theorem dX7_count_142 : decode cX7_count 142 = .ok (.aload_n 0, 1) := allD_get dtX7_count 44 rfl
theorem dX7_count_143 : decode cX7_count 143 = .ok (.getfield 60, 3) := allD_get dtX7_count 45 rfl
theorem dX7_count_146 : decode cX7_count 146 = .ok (.getfield 259, 3) := allD_get dtX7_count 46 rfl
theorem dX7_count_149 : decode cX7_count 149 = .ok (.ireturn, 1) := allD_get dtX7_count 47 rfl
theorem dX7_count_150 : decode cX7_count 150 = .ok (.aload_n 0, 1) := allD_get dtX7_count 48 rfl
theorem dX7_count_151 : decode cX7_count 151 = .ok (.getfield 12, 3) := allD_get dtX7_count 49 rfl
theorem dX7_count_154 : decode cX7_count 154 = .ok (.getfield 72, 3) := allD_get dtX7_count 50 rfl
theorem dX7_count_157 : decode cX7_count 157 = .ok (.ireturn, 1) := allD_get dtX7_count 51 rfl
theorem dX7_count_158 : decode cX7_count 158 = .ok (.aload_n 0, 1) := allD_get dtX7_count 52 rfl
theorem dX7_count_159 : decode cX7_count 159 = .ok (.getfield 39, 3) := allD_get dtX7_count 53 rfl
theorem dX7_count_162 : decode cX7_count 162 = .ok (.getfield 182, 3) := allD_get dtX7_count 54 rfl
theorem dX7_count_165 : decode cX7_count 165 = .ok (.ireturn, 1) := allD_get dtX7_count 55 rfl
theorem dX7_count_166 : decode cX7_count 166 = .ok (.aload_n 0, 1) := allD_get dtX7_count 56 rfl
theorem dX7_count_167 : decode cX7_count 167 = .ok (.getfield 39, 3) := allD_get dtX7_count 57 rfl
theorem dX7_count_170 : decode cX7_count 170 = .ok (.getfield 188, 3) := allD_get dtX7_count 58 rfl
theorem dX7_count_173 : decode cX7_count 173 = .ok (.ireturn, 1) := allD_get dtX7_count 59 rfl
theorem dX7_count_174 : decode cX7_count 174 = .ok (.aload_n 0, 1) := allD_get dtX7_count 60 rfl
theorem dX7_count_175 : decode cX7_count 175 = .ok (.getfield 64, 3) := allD_get dtX7_count 61 rfl
theorem dX7_count_178 : decode cX7_count 178 = .ok (.ireturn, 1) := allD_get dtX7_count 62 rfl
theorem dX7_count_179 : decode cX7_count 179 = .ok (.bipush (-2), 2) := allD_get dtX7_count 63 rfl
theorem dX7_count_181 : decode cX7_count 181 = .ok (.ireturn, 1) := allD_get dtX7_count 64 rfl
def tbX7_endPart : List (Nat × Instr × Nat) := [(0, .aload_n 0, 1), (1, .getfield 33, 3), (4, .getfield 72, 3), (7, .ifCond .ne 5, 3), (10, .iconst 1, 1), (11, .ireturn, 1), (12, .aload_n 0, 1), (13, .getfield 30, 3), (16, .iload_n 1, 1), (17, .aload_n 0, 1), (18, .getfield 33, 3), (21, .invokevirtual 100, 3), (24, .istore_n 2, 1), (25, .aload_n 0, 1), (26, .getfield 33, 3), (29, .invokevirtual 79, 3), (32, .iload_n 2, 1), (33, .ireturn, 1)]
set_option maxRecDepth 100000 in
theorem dtX7_endPart : allD cX7_endPart tbX7_endPart = true := by decide +kernel
theorem dX7_endPart_0 : decode cX7_endPart 0 = .ok (.aload_n 0, 1) := allD_get dtX7_endPart 0 rfl
theorem dX7_endPart_1 : decode cX7_endPart 1 = .ok (.getfield 33, 3) := allD_get dtX7_endPart 1 rfl
theorem dX7_endPart_4 : decode cX7_endPart 4 = .ok (.getfield 72, 3) := allD_get dtX7_endPart 2 rfl
theorem dX7_endPart_7 : decode cX7_endPart 7 = .ok (.ifCond .ne 5, 3) := allD_get dtX7_endPart 3 rfl
theorem dX7_endPart_10 : decode cX7_endPart 10 = .ok (.iconst 1, 1) := allD_get dtX7_endPart 4 rfl
theorem dX7_endPart_11 : decode cX7_endPart 11 = .ok (.ireturn, 1) := allD_get dtX7_endPart 5 rfl
theorem dX7_endPart_12 : decode cX7_endPart 12 = .ok (.aload_n 0, 1) := allD_get dtX7_endPart 6 rfl
theorem dX7_endPart_13 : decode cX7_endPart 13 = .ok (.getfield 30, 3) := allD_get dtX7_endPart 7 rfl
theorem dX7_endPart_16 : decode cX7_endPart 16 = .ok (.iload_n 1, 1) := allD_get dtX7_endPart 8 rfl
theorem dX7_endPart_17 : decode cX7_endPart 17 = .ok (.aload_n 0, 1) := allD_get dtX7_endPart 9 rfl
theorem dX7_endPart_18 : decode cX7_endPart 18 = .ok (.getfield 33, 3) := allD_get dtX7_endPart 10 rfl
theorem dX7_endPart_21 : decode cX7_endPart 21 = .ok (.invokevirtual 100, 3) := allD_get dtX7_endPart 11 rfl
theorem dX7_endPart_24 : decode cX7_endPart 24 = .ok (.istore_n 2, 1) := allD_get dtX7_endPart 12 rfl
theorem dX7_endPart_25 : decode cX7_endPart 25 = .ok (.aload_n 0, 1) := allD_get dtX7_endPart 13 rfl
theorem dX7_endPart_26 : decode cX7_endPart 26 = .ok (.getfield 33, 3) := allD_get dtX7_endPart 14 rfl
theorem dX7_endPart_29 : decode cX7_endPart 29 = .ok (.invokevirtual 79, 3) := allD_get dtX7_endPart 15 rfl
theorem dX7_endPart_32 : decode cX7_endPart 32 = .ok (.iload_n 2, 1) := allD_get dtX7_endPart 16 rfl
theorem dX7_endPart_33 : decode cX7_endPart 33 = .ok (.ireturn, 1) := allD_get dtX7_endPart 17 rfl
def tbX7_replace : List (Nat × Instr × Nat) := [(0, .aload_n 0, 1), (1, .getfield 26, 3), (4, .iload_n 1, 1), (5, .aload_n 0, 1), (6, .getfield 33, 3), (9, .invokevirtual 262, 3), (12, .ifCond .eq 6, 3), (15, .bipush (-5), 2), (17, .ireturn, 1), (18, .aload_n 0, 1), (19, .getfield 26, 3), (22, .iload_n 1, 1), (23, .aload_n 0, 1), (24, .getfield 26, 3), (27, .iload_n 1, 1), (28, .invokevirtual 128, 3), (31, .aload_n 0, 1), (32, .getfield 33, 3), (35, .invokevirtual 160, 3), (38, .aload_n 0, 1), (39, .getfield 39, 3), (42, .aload_n 0, 1), (43, .getfield 26, 3), (46, .invokevirtual 103, 3), (49, .aload_n 0, 1), (50, .getfield 33, 3), (53, .getfield 72, 3), (56, .ireturn, 1)]
set_option maxRecDepth 100000 in
theorem dtX7_replace : allD cX7_replace tbX7_replace = true := by decide +kernel
theorem dX7_replace_0 : decode cX7_replace 0 = .ok (.aload_n 0, 1) := allD_get dtX7_replace 0 rfl
theorem dX7_replace_1 : decode cX7_replace 1 = .ok (.getfield 26, 3) := allD_get dtX7_replace 1 rfl
theorem dX7_replace_4 : decode cX7_replace 4 = .ok (.iload_n 1, 1) := allD_get dtX7_replace 2 rfl
theorem dX7_replace_5 : decode cX7_replace 5 = .ok (.aload_n 0, 1) := allD_get dtX7_replace 3 rfl
theorem dX7_replace_6 : decode cX7_replace 6 = .ok (.getfield 33, 3) := allD_get dtX7_replace 4 rfl
theorem dX7_replace_9 : decode cX7_replace 9 = .ok (.invokevirtual 262, 3) := allD_get dtX7_replace 5 rfl
theorem dX7_replace_12 : decode cX7_replace 12 = .ok (.ifCond .eq 6, 3) := allD_get dtX7_replace 6 rfl
theorem dX7_replace_15 : decode cX7_replace 15 = .ok (.bipush (-5), 2) := allD_get dtX7_replace 7 rfl
theorem dX7_replace_17 : decode cX7_replace 17 = .ok (.ireturn, 1) := allD_get dtX7_replace 8 rfl
theorem dX7_replace_18 : decode cX7_replace 18 = .ok (.aload_n 0, 1) := allD_get dtX7_replace 9 rfl
theorem dX7_replace_19 : decode cX7_replace 19 = .ok (.getfield 26, 3) := allD_get dtX7_replace 10 rfl
theorem dX7_replace_22 : decode cX7_replace 22 = .ok (.iload_n 1, 1) := allD_get dtX7_replace 11 rfl
theorem dX7_replace_23 : decode cX7_replace 23 = .ok (.aload_n 0, 1) := allD_get dtX7_replace 12 rfl
theorem dX7_replace_24 : decode cX7_replace 24 = .ok (.getfield 26, 3) := allD_get dtX7_replace 13 rfl
theorem dX7_replace_27 : decode cX7_replace 27 = .ok (.iload_n 1, 1) := allD_get dtX7_replace 14 rfl
theorem dX7_replace_28 : decode cX7_replace 28 = .ok (.invokevirtual 128, 3) := allD_get dtX7_replace 15 rfl
theorem dX7_replace_31 : decode cX7_replace 31 = .ok (.aload_n 0, 1) := allD_get dtX7_replace 16 rfl
theorem dX7_replace_32 : decode cX7_replace 32 = .ok (.getfield 33, 3) := allD_get dtX7_replace 17 rfl
theorem dX7_replace_35 : decode cX7_replace 35 = .ok (.invokevirtual 160, 3) := allD_get dtX7_replace 18 rfl
theorem dX7_replace_38 : decode cX7_replace 38 = .ok (.aload_n 0, 1) := allD_get dtX7_replace 19 rfl
theorem dX7_replace_39 : decode cX7_replace 39 = .ok (.getfield 39, 3) := allD_get dtX7_replace 20 rfl
theorem dX7_replace_42 : decode cX7_replace 42 = .ok (.aload_n 0, 1) := allD_get dtX7_replace 21 rfl
theorem dX7_replace_43 : decode cX7_replace 43 = .ok (.getfield 26, 3) := allD_get dtX7_replace 22 rfl
theorem dX7_replace_46 : decode cX7_replace 46 = .ok (.invokevirtual 103, 3) := allD_get dtX7_replace 23 rfl
theorem dX7_replace_49 : decode cX7_replace 49 = .ok (.aload_n 0, 1) := allD_get dtX7_replace 24 rfl
theorem dX7_replace_50 : decode cX7_replace 50 = .ok (.getfield 33, 3) := allD_get dtX7_replace 25 rfl
theorem dX7_replace_53 : decode cX7_replace 53 = .ok (.getfield 72, 3) := allD_get dtX7_replace 26 rfl
theorem dX7_replace_56 : decode cX7_replace 56 = .ok (.ireturn, 1) := allD_get dtX7_replace 27 rfl
def tbX7_layOut : List (Nat × Instr × Nat) := [(0, .aload_n 0, 1), (1, .getfield 46, 3), (4, .aload_n 0, 1), (5, .getfield 26, 3), (8, .invokevirtual 265, 3), (11, .aload_n 0, 1), (12, .getfield 53, 3), (15, .aload_n 0, 1), (16, .getfield 26, 3), (19, .aload_n 0, 1), (20, .getfield 46, 3), (23, .aload_n 0, 1), (24, .getfield 64, 3), (27, .invokevirtual 268, 3), (30, .return_, 1)]
set_option maxRecDepth 100000 in
theorem dtX7_layOut : allD cX7_layOut tbX7_layOut = true := by decide +kernel
theorem dX7_layOut_0 : decode cX7_layOut 0 = .ok (.aload_n 0, 1) := allD_get dtX7_layOut 0 rfl
theorem dX7_layOut_1 : decode cX7_layOut 1 = .ok (.getfield 46, 3) := allD_get dtX7_layOut 1 rfl
theorem dX7_layOut_4 : decode cX7_layOut 4 = .ok (.aload_n 0, 1) := allD_get dtX7_layOut 2 rfl
theorem dX7_layOut_5 : decode cX7_layOut 5 = .ok (.getfield 26, 3) := allD_get dtX7_layOut 3 rfl
theorem dX7_layOut_8 : decode cX7_layOut 8 = .ok (.invokevirtual 265, 3) := allD_get dtX7_layOut 4 rfl
theorem dX7_layOut_11 : decode cX7_layOut 11 = .ok (.aload_n 0, 1) := allD_get dtX7_layOut 5 rfl
theorem dX7_layOut_12 : decode cX7_layOut 12 = .ok (.getfield 53, 3) := allD_get dtX7_layOut 6 rfl
theorem dX7_layOut_15 : decode cX7_layOut 15 = .ok (.aload_n 0, 1) := allD_get dtX7_layOut 7 rfl
theorem dX7_layOut_16 : decode cX7_layOut 16 = .ok (.getfield 26, 3) := allD_get dtX7_layOut 8 rfl
theorem dX7_layOut_19 : decode cX7_layOut 19 = .ok (.aload_n 0, 1) := allD_get dtX7_layOut 9 rfl
theorem dX7_layOut_20 : decode cX7_layOut 20 = .ok (.getfield 46, 3) := allD_get dtX7_layOut 10 rfl
theorem dX7_layOut_23 : decode cX7_layOut 23 = .ok (.aload_n 0, 1) := allD_get dtX7_layOut 11 rfl
theorem dX7_layOut_24 : decode cX7_layOut 24 = .ok (.getfield 64, 3) := allD_get dtX7_layOut 12 rfl
theorem dX7_layOut_27 : decode cX7_layOut 27 = .ok (.invokevirtual 268, 3) := allD_get dtX7_layOut 13 rfl
theorem dX7_layOut_30 : decode cX7_layOut 30 = .ok (.return_, 1) := allD_get dtX7_layOut 14 rfl
def tbX7_isWithin : List (Nat × Instr × Nat) := [(0, .iload_n 0, 1), (1, .iload_n 1, 1), (2, .if_icmp .lt 12, 3), (5, .iload_n 0, 1), (6, .iload_n 2, 1), (7, .if_icmp .gt 7, 3), (10, .iconst 1, 1), (11, .goto 4, 3), (14, .iconst 0, 1), (15, .ireturn, 1)]
set_option maxRecDepth 100000 in
theorem dtX7_isWithin : allD cX7_isWithin tbX7_isWithin = true := by decide +kernel
theorem dX7_isWithin_0 : decode cX7_isWithin 0 = .ok (.iload_n 0, 1) := allD_get dtX7_isWithin 0 rfl
theorem dX7_isWithin_1 : decode cX7_isWithin 1 = .ok (.iload_n 1, 1) := allD_get dtX7_isWithin 1 rfl
theorem dX7_isWithin_2 : decode cX7_isWithin 2 = .ok (.if_icmp .lt 12, 3) := allD_get dtX7_isWithin 2 rfl
theorem dX7_isWithin_5 : decode cX7_isWithin 5 = .ok (.iload_n 0, 1) := allD_get dtX7_isWithin 3 rfl
theorem dX7_isWithin_6 : decode cX7_isWithin 6 = .ok (.iload_n 2, 1) := allD_get dtX7_isWithin 4 rfl
theorem dX7_isWithin_7 : decode cX7_isWithin 7 = .ok (.if_icmp .gt 7, 3) := allD_get dtX7_isWithin 5 rfl
theorem dX7_isWithin_10 : decode cX7_isWithin 10 = .ok (.iconst 1, 1) := allD_get dtX7_isWithin 6 rfl
theorem dX7_isWithin_11 : decode cX7_isWithin 11 = .ok (.goto 4, 3) := allD_get dtX7_isWithin 7 rfl
theorem dX7_isWithin_14 : decode cX7_isWithin 14 = .ok (.iconst 0, 1) := allD_get dtX7_isWithin 8 rfl
theorem dX7_isWithin_15 : decode cX7_isWithin 15 = .ok (.ireturn, 1) := allD_get dtX7_isWithin 9 rfl
def tbX7_isCoordinate : List (Nat × Instr × Nat) := [(0, .iload_n 0, 1), (1, .iconst 0, 1), (2, .sipush 1000, 3), (5, .invokestatic 110, 3), (8, .ireturn, 1)]
set_option maxRecDepth 100000 in
theorem dtX7_isCoordinate : allD cX7_isCoordinate tbX7_isCoordinate = true := by decide +kernel
theorem dX7_isCoordinate_0 : decode cX7_isCoordinate 0 = .ok (.iload_n 0, 1) := allD_get dtX7_isCoordinate 0 rfl
theorem dX7_isCoordinate_1 : decode cX7_isCoordinate 1 = .ok (.iconst 0, 1) := allD_get dtX7_isCoordinate 1 rfl
theorem dX7_isCoordinate_2 : decode cX7_isCoordinate 2 = .ok (.sipush 1000, 3) := allD_get dtX7_isCoordinate 2 rfl
theorem dX7_isCoordinate_5 : decode cX7_isCoordinate 5 = .ok (.invokestatic 110, 3) := allD_get dtX7_isCoordinate 3 rfl
theorem dX7_isCoordinate_8 : decode cX7_isCoordinate 8 = .ok (.ireturn, 1) := allD_get dtX7_isCoordinate 4 rfl
def tbX7_isColor : List (Nat × Instr × Nat) := [(0, .iload_n 0, 1), (1, .iconst 0, 1), (2, .iconst 3, 1), (3, .invokestatic 110, 3), (6, .ireturn, 1)]
set_option maxRecDepth 100000 in
theorem dtX7_isColor : allD cX7_isColor tbX7_isColor = true := by decide +kernel
theorem dX7_isColor_0 : decode cX7_isColor 0 = .ok (.iload_n 0, 1) := allD_get dtX7_isColor 0 rfl
theorem dX7_isColor_1 : decode cX7_isColor 1 = .ok (.iconst 0, 1) := allD_get dtX7_isColor 1 rfl
theorem dX7_isColor_2 : decode cX7_isColor 2 = .ok (.iconst 3, 1) := allD_get dtX7_isColor 2 rfl
theorem dX7_isColor_3 : decode cX7_isColor 3 = .ok (.invokestatic 110, 3) := allD_get dtX7_isColor 3 rfl
theorem dX7_isColor_6 : decode cX7_isColor 6 = .ok (.ireturn, 1) := allD_get dtX7_isColor 4 rfl
def tbX7_square : List (Nat × Instr × Nat) := [(0, .iload_n 0, 1), (1, .iload_n 0, 1), (2, .imul, 1), (3, .iload_n 1, 1), (4, .iload_n 1, 1), (5, .imul, 1), (6, .iadd, 1), (7, .ireturn, 1)]
set_option maxRecDepth 100000 in
theorem dtX7_square : allD cX7_square tbX7_square = true := by decide +kernel
theorem dX7_square_0 : decode cX7_square 0 = .ok (.iload_n 0, 1) := allD_get dtX7_square 0 rfl
theorem dX7_square_1 : decode cX7_square 1 = .ok (.iload_n 0, 1) := allD_get dtX7_square 1 rfl
theorem dX7_square_2 : decode cX7_square 2 = .ok (.imul, 1) := allD_get dtX7_square 2 rfl
theorem dX7_square_3 : decode cX7_square 3 = .ok (.iload_n 1, 1) := allD_get dtX7_square 3 rfl
theorem dX7_square_4 : decode cX7_square 4 = .ok (.iload_n 1, 1) := allD_get dtX7_square 4 rfl
theorem dX7_square_5 : decode cX7_square 5 = .ok (.imul, 1) := allD_get dtX7_square 5 rfl
theorem dX7_square_6 : decode cX7_square 6 = .ok (.iadd, 1) := allD_get dtX7_square 6 rfl
theorem dX7_square_7 : decode cX7_square 7 = .ok (.ireturn, 1) := allD_get dtX7_square 7 rfl
def tbX7_cellOf : List (Nat × Instr × Nat) := [(0, .iload_n 1, 1), (1, .bipush 10, 2), (3, .idiv, 1), (4, .bipush 101, 2), (6, .imul, 1), (7, .iload_n 0, 1), (8, .bipush 10, 2), (10, .idiv, 1), (11, .iadd, 1), (12, .ireturn, 1)]
set_option maxRecDepth 100000 in
theorem dtX7_cellOf : allD cX7_cellOf tbX7_cellOf = true := by decide +kernel
theorem dX7_cellOf_0 : decode cX7_cellOf 0 = .ok (.iload_n 1, 1) := allD_get dtX7_cellOf 0 rfl
theorem dX7_cellOf_1 : decode cX7_cellOf 1 = .ok (.bipush 10, 2) := allD_get dtX7_cellOf 1 rfl
theorem dX7_cellOf_3 : decode cX7_cellOf 3 = .ok (.idiv, 1) := allD_get dtX7_cellOf 2 rfl
theorem dX7_cellOf_4 : decode cX7_cellOf 4 = .ok (.bipush 101, 2) := allD_get dtX7_cellOf 3 rfl
theorem dX7_cellOf_6 : decode cX7_cellOf 6 = .ok (.imul, 1) := allD_get dtX7_cellOf 4 rfl
theorem dX7_cellOf_7 : decode cX7_cellOf 7 = .ok (.iload_n 0, 1) := allD_get dtX7_cellOf 5 rfl
theorem dX7_cellOf_8 : decode cX7_cellOf 8 = .ok (.bipush 10, 2) := allD_get dtX7_cellOf 6 rfl
theorem dX7_cellOf_10 : decode cX7_cellOf 10 = .ok (.idiv, 1) := allD_get dtX7_cellOf 7 rfl
theorem dX7_cellOf_11 : decode cX7_cellOf 11 = .ok (.iadd, 1) := allD_get dtX7_cellOf 8 rfl
theorem dX7_cellOf_12 : decode cX7_cellOf 12 = .ok (.ireturn, 1) := allD_get dtX7_cellOf 9 rfl
def tbX7_root : List (Nat × Instr × Nat) := [(0, .iconst 0, 1), (1, .istore_n 1, 1), (2, .sipush 8192, 3), (5, .istore_n 2, 1), (6, .iload_n 2, 1), (7, .ifCond .le 23, 3), (10, .iload_n 1, 1), (11, .iload_n 2, 1), (12, .iadd, 1), (13, .istore_n 3, 1), (14, .iload_n 3, 1), (15, .iload_n 3, 1), (16, .imul, 1), (17, .iload_n 0, 1), (18, .if_icmp .gt 5, 3), (21, .iload_n 3, 1), (22, .istore_n 1, 1), (23, .iload_n 2, 1), (24, .iconst 1, 1), (25, .ishr, 1), (26, .istore_n 2, 1), (27, .goto (-21), 3), (30, .iload_n 1, 1), (31, .ireturn, 1)]
set_option maxRecDepth 100000 in
theorem dtX7_root : allD cX7_root tbX7_root = true := by decide +kernel
theorem dX7_root_0 : decode cX7_root 0 = .ok (.iconst 0, 1) := allD_get dtX7_root 0 rfl
theorem dX7_root_1 : decode cX7_root 1 = .ok (.istore_n 1, 1) := allD_get dtX7_root 1 rfl
theorem dX7_root_2 : decode cX7_root 2 = .ok (.sipush 8192, 3) := allD_get dtX7_root 2 rfl
theorem dX7_root_5 : decode cX7_root 5 = .ok (.istore_n 2, 1) := allD_get dtX7_root 3 rfl
theorem dX7_root_6 : decode cX7_root 6 = .ok (.iload_n 2, 1) := allD_get dtX7_root 4 rfl
theorem dX7_root_7 : decode cX7_root 7 = .ok (.ifCond .le 23, 3) := allD_get dtX7_root 5 rfl
theorem dX7_root_10 : decode cX7_root 10 = .ok (.iload_n 1, 1) := allD_get dtX7_root 6 rfl
theorem dX7_root_11 : decode cX7_root 11 = .ok (.iload_n 2, 1) := allD_get dtX7_root 7 rfl
theorem dX7_root_12 : decode cX7_root 12 = .ok (.iadd, 1) := allD_get dtX7_root 8 rfl
theorem dX7_root_13 : decode cX7_root 13 = .ok (.istore_n 3, 1) := allD_get dtX7_root 9 rfl
theorem dX7_root_14 : decode cX7_root 14 = .ok (.iload_n 3, 1) := allD_get dtX7_root 10 rfl
theorem dX7_root_15 : decode cX7_root 15 = .ok (.iload_n 3, 1) := allD_get dtX7_root 11 rfl
theorem dX7_root_16 : decode cX7_root 16 = .ok (.imul, 1) := allD_get dtX7_root 12 rfl
theorem dX7_root_17 : decode cX7_root 17 = .ok (.iload_n 0, 1) := allD_get dtX7_root 13 rfl
theorem dX7_root_18 : decode cX7_root 18 = .ok (.if_icmp .gt 5, 3) := allD_get dtX7_root 14 rfl
theorem dX7_root_21 : decode cX7_root 21 = .ok (.iload_n 3, 1) := allD_get dtX7_root 15 rfl
theorem dX7_root_22 : decode cX7_root 22 = .ok (.istore_n 1, 1) := allD_get dtX7_root 16 rfl
theorem dX7_root_23 : decode cX7_root 23 = .ok (.iload_n 2, 1) := allD_get dtX7_root 17 rfl
theorem dX7_root_24 : decode cX7_root 24 = .ok (.iconst 1, 1) := allD_get dtX7_root 18 rfl
theorem dX7_root_25 : decode cX7_root 25 = .ok (.ishr, 1) := allD_get dtX7_root 19 rfl
theorem dX7_root_26 : decode cX7_root 26 = .ok (.istore_n 2, 1) := allD_get dtX7_root 20 rfl
theorem dX7_root_27 : decode cX7_root 27 = .ok (.goto (-21), 3) := allD_get dtX7_root 21 rfl
theorem dX7_root_30 : decode cX7_root 30 = .ok (.iload_n 1, 1) := allD_get dtX7_root 22 rfl
theorem dX7_root_31 : decode cX7_root 31 = .ok (.ireturn, 1) := allD_get dtX7_root 23 rfl
