/-! the instructions of X3's methods, by program -/
def tbX3_init : List (Nat × Instr × Nat) := [(0, .aload_n 0, 1), (1, .invokespecial 1, 3), (4, .aload_n 0, 1), (5, .sipush 512, 3), (8, .newarray .int, 2), (10, .putfield 9, 3), (13, .aload_n 0, 1), (14, .sipush 512, 3), (17, .newarray .int, 2), (19, .putfield 13, 3), (22, .return_, 1)]
set_option maxRecDepth 100000 in
theorem dtX3_init : allD cX3_init tbX3_init = true := by decide +kernel
theorem dX3_init_0 : decode cX3_init 0 = .ok (.aload_n 0, 1) := allD_get dtX3_init 0 rfl
theorem dX3_init_1 : decode cX3_init 1 = .ok (.invokespecial 1, 3) := allD_get dtX3_init 1 rfl
theorem dX3_init_4 : decode cX3_init 4 = .ok (.aload_n 0, 1) := allD_get dtX3_init 2 rfl
theorem dX3_init_5 : decode cX3_init 5 = .ok (.sipush 512, 3) := allD_get dtX3_init 3 rfl
theorem dX3_init_8 : decode cX3_init 8 = .ok (.newarray .int, 2) := allD_get dtX3_init 4 rfl
theorem dX3_init_10 : decode cX3_init 10 = .ok (.putfield 9, 3) := allD_get dtX3_init 5 rfl
theorem dX3_init_13 : decode cX3_init 13 = .ok (.aload_n 0, 1) := allD_get dtX3_init 6 rfl
theorem dX3_init_14 : decode cX3_init 14 = .ok (.sipush 512, 3) := allD_get dtX3_init 7 rfl
theorem dX3_init_17 : decode cX3_init 17 = .ok (.newarray .int, 2) := allD_get dtX3_init 8 rfl
theorem dX3_init_19 : decode cX3_init 19 = .ok (.putfield 13, 3) := allD_get dtX3_init 9 rfl
theorem dX3_init_22 : decode cX3_init 22 = .ok (.return_, 1) := allD_get dtX3_init 10 rfl
def tbX3_take : List (Nat × Instr × Nat) := [(0, .aload_n 0, 1), (1, .iconst 0, 1), (2, .putfield 16, 3), (5, .aload_n 0, 1), (6, .iconst 0, 1), (7, .putfield 20, 3), (10, .iconst 0, 1), (11, .istore_n 3, 1), (12, .iload_n 3, 1), (13, .sipush 512, 3), (16, .if_icmp .ge 16, 3), (19, .aload_n 0, 1), (20, .getfield 13, 3), (23, .iload_n 3, 1), (24, .iconst 0, 1), (25, .iastore, 1), (26, .iinc 3 1, 3), (29, .goto (-17), 3), (32, .iconst 0, 1), (33, .istore_n 3, 1), (34, .iload_n 3, 1), (35, .aload_n 1, 1), (36, .getfield 23, 3), (39, .if_icmp .ge 58, 3), (42, .aload_n 1, 1), (43, .iload_n 3, 1), (44, .iload_n 2, 1), (45, .invokevirtual 28, 3), (48, .ifCond .eq 43, 3), (51, .iconst 0, 1), (52, .istore 4, 2), (54, .iload 4, 2), (56, .aload_n 1, 1), (57, .iload_n 3, 1), (58, .invokevirtual 32, 3), (61, .if_icmp .ge 30, 3), (64, .aload_n 0, 1), (65, .aload_n 1, 1), (66, .iload_n 3, 1), (67, .iload 4, 2), (69, .invokevirtual 36, 3), (72, .aload_n 1, 1), (73, .iload_n 3, 1), (74, .iload 4, 2), (76, .invokevirtual 40, 3), (79, .invokestatic 43, 3), (82, .invokevirtual 48, 3), (85, .iinc 4 1, 3), (88, .goto (-34), 3), (91, .iinc 3 1, 3), (94, .goto (-60), 3), (97, .return_, 1)]
set_option maxRecDepth 100000 in
theorem dtX3_take : allD cX3_take tbX3_take = true := by decide +kernel
theorem dX3_take_0 : decode cX3_take 0 = .ok (.aload_n 0, 1) := allD_get dtX3_take 0 rfl
theorem dX3_take_1 : decode cX3_take 1 = .ok (.iconst 0, 1) := allD_get dtX3_take 1 rfl
theorem dX3_take_2 : decode cX3_take 2 = .ok (.putfield 16, 3) := allD_get dtX3_take 2 rfl
theorem dX3_take_5 : decode cX3_take 5 = .ok (.aload_n 0, 1) := allD_get dtX3_take 3 rfl
theorem dX3_take_6 : decode cX3_take 6 = .ok (.iconst 0, 1) := allD_get dtX3_take 4 rfl
theorem dX3_take_7 : decode cX3_take 7 = .ok (.putfield 20, 3) := allD_get dtX3_take 5 rfl
theorem dX3_take_10 : decode cX3_take 10 = .ok (.iconst 0, 1) := allD_get dtX3_take 6 rfl
theorem dX3_take_11 : decode cX3_take 11 = .ok (.istore_n 3, 1) := allD_get dtX3_take 7 rfl
theorem dX3_take_12 : decode cX3_take 12 = .ok (.iload_n 3, 1) := allD_get dtX3_take 8 rfl
theorem dX3_take_13 : decode cX3_take 13 = .ok (.sipush 512, 3) := allD_get dtX3_take 9 rfl
theorem dX3_take_16 : decode cX3_take 16 = .ok (.if_icmp .ge 16, 3) := allD_get dtX3_take 10 rfl
theorem dX3_take_19 : decode cX3_take 19 = .ok (.aload_n 0, 1) := allD_get dtX3_take 11 rfl
theorem dX3_take_20 : decode cX3_take 20 = .ok (.getfield 13, 3) := allD_get dtX3_take 12 rfl
theorem dX3_take_23 : decode cX3_take 23 = .ok (.iload_n 3, 1) := allD_get dtX3_take 13 rfl
theorem dX3_take_24 : decode cX3_take 24 = .ok (.iconst 0, 1) := allD_get dtX3_take 14 rfl
theorem dX3_take_25 : decode cX3_take 25 = .ok (.iastore, 1) := allD_get dtX3_take 15 rfl
theorem dX3_take_26 : decode cX3_take 26 = .ok (.iinc 3 1, 3) := allD_get dtX3_take 16 rfl
theorem dX3_take_29 : decode cX3_take 29 = .ok (.goto (-17), 3) := allD_get dtX3_take 17 rfl
theorem dX3_take_32 : decode cX3_take 32 = .ok (.iconst 0, 1) := allD_get dtX3_take 18 rfl
theorem dX3_take_33 : decode cX3_take 33 = .ok (.istore_n 3, 1) := allD_get dtX3_take 19 rfl
theorem dX3_take_34 : decode cX3_take 34 = .ok (.iload_n 3, 1) := allD_get dtX3_take 20 rfl
theorem dX3_take_35 : decode cX3_take 35 = .ok (.aload_n 1, 1) := allD_get dtX3_take 21 rfl
theorem dX3_take_36 : decode cX3_take 36 = .ok (.getfield 23, 3) := allD_get dtX3_take 22 rfl
theorem dX3_take_39 : decode cX3_take 39 = .ok (.if_icmp .ge 58, 3) := allD_get dtX3_take 23 rfl
theorem dX3_take_42 : decode cX3_take 42 = .ok (.aload_n 1, 1) := allD_get dtX3_take 24 rfl
theorem dX3_take_43 : decode cX3_take 43 = .ok (.iload_n 3, 1) := allD_get dtX3_take 25 rfl
theorem dX3_take_44 : decode cX3_take 44 = .ok (.iload_n 2, 1) := allD_get dtX3_take 26 rfl
theorem dX3_take_45 : decode cX3_take 45 = .ok (.invokevirtual 28, 3) := allD_get dtX3_take 27 rfl
theorem dX3_take_48 : decode cX3_take 48 = .ok (.ifCond .eq 43, 3) := allD_get dtX3_take 28 rfl
theorem dX3_take_51 : decode cX3_take 51 = .ok (.iconst 0, 1) := allD_get dtX3_take 29 rfl
theorem dX3_take_52 : decode cX3_take 52 = .ok (.istore 4, 2) := allD_get dtX3_take 30 rfl
theorem dX3_take_54 : decode cX3_take 54 = .ok (.iload 4, 2) := allD_get dtX3_take 31 rfl
theorem dX3_take_56 : decode cX3_take 56 = .ok (.aload_n 1, 1) := allD_get dtX3_take 32 rfl
theorem dX3_take_57 : decode cX3_take 57 = .ok (.iload_n 3, 1) := allD_get dtX3_take 33 rfl
theorem dX3_take_58 : decode cX3_take 58 = .ok (.invokevirtual 32, 3) := allD_get dtX3_take 34 rfl
theorem dX3_take_61 : decode cX3_take 61 = .ok (.if_icmp .ge 30, 3) := allD_get dtX3_take 35 rfl
theorem dX3_take_64 : decode cX3_take 64 = .ok (.aload_n 0, 1) := allD_get dtX3_take 36 rfl
theorem dX3_take_65 : decode cX3_take 65 = .ok (.aload_n 1, 1) := allD_get dtX3_take 37 rfl
theorem dX3_take_66 : decode cX3_take 66 = .ok (.iload_n 3, 1) := allD_get dtX3_take 38 rfl
theorem dX3_take_67 : decode cX3_take 67 = .ok (.iload 4, 2) := allD_get dtX3_take 39 rfl
theorem dX3_take_69 : decode cX3_take 69 = .ok (.invokevirtual 36, 3) := allD_get dtX3_take 40 rfl
theorem dX3_take_72 : decode cX3_take 72 = .ok (.aload_n 1, 1) := allD_get dtX3_take 41 rfl
theorem dX3_take_73 : decode cX3_take 73 = .ok (.iload_n 3, 1) := allD_get dtX3_take 42 rfl
theorem dX3_take_74 : decode cX3_take 74 = .ok (.iload 4, 2) := allD_get dtX3_take 43 rfl
theorem dX3_take_76 : decode cX3_take 76 = .ok (.invokevirtual 40, 3) := allD_get dtX3_take 44 rfl
theorem dX3_take_79 : decode cX3_take 79 = .ok (.invokestatic 43, 3) := allD_get dtX3_take 45 rfl
theorem dX3_take_82 : decode cX3_take 82 = .ok (.invokevirtual 48, 3) := allD_get dtX3_take 46 rfl
theorem dX3_take_85 : decode cX3_take 85 = .ok (.iinc 4 1, 3) := allD_get dtX3_take 47 rfl
theorem dX3_take_88 : decode cX3_take 88 = .ok (.goto (-34), 3) := allD_get dtX3_take 48 rfl
theorem dX3_take_91 : decode cX3_take 91 = .ok (.iinc 3 1, 3) := allD_get dtX3_take 49 rfl
theorem dX3_take_94 : decode cX3_take 94 = .ok (.goto (-60), 3) := allD_get dtX3_take 50 rfl
theorem dX3_take_97 : decode cX3_take 97 = .ok (.return_, 1) := allD_get dtX3_take 51 rfl
def tbX3_add : List (Nat × Instr × Nat) := [(0, .iconst 0, 1), (1, .istore_n 2, 1), (2, .iload_n 2, 1), (3, .sipush 512, 3), (6, .if_icmp .ge 81, 3), (9, .iload_n 1, 1), (10, .iload_n 2, 1), (11, .iadd, 1), (12, .sipush 511, 3), (15, .iand, 1), (16, .istore_n 3, 1), (17, .aload_n 0, 1), (18, .getfield 13, 3), (21, .iload_n 3, 1), (22, .iaload, 1), (23, .ifCond .ne 20, 3), (26, .aload_n 0, 1), (27, .getfield 9, 3), (30, .iload_n 3, 1), (31, .iload_n 1, 1), (32, .iastore, 1), (33, .aload_n 0, 1), (34, .dup, 1), (35, .getfield 16, 3), (38, .iconst 1, 1), (39, .iadd, 1), (40, .putfield 16, 3), (43, .aload_n 0, 1), (44, .getfield 9, 3), (47, .iload_n 3, 1), (48, .iaload, 1), (49, .iload_n 1, 1), (50, .if_icmp .ne 31, 3), (53, .aload_n 0, 1), (54, .getfield 13, 3), (57, .iload_n 3, 1), (58, .dup2, 1), (59, .iaload, 1), (60, .iconst 1, 1), (61, .iadd, 1), (62, .iastore, 1), (63, .aload_n 0, 1), (64, .aload_n 0, 1), (65, .getfield 20, 3), (68, .aload_n 0, 1), (69, .getfield 13, 3), (72, .iload_n 3, 1), (73, .iaload, 1), (74, .invokestatic 52, 3), (77, .putfield 20, 3), (80, .return_, 1), (81, .iinc 2 1, 3), (84, .goto (-82), 3), (87, .return_, 1)]
set_option maxRecDepth 100000 in
theorem dtX3_add : allD cX3_add tbX3_add = true := by decide +kernel
theorem dX3_add_0 : decode cX3_add 0 = .ok (.iconst 0, 1) := allD_get dtX3_add 0 rfl
theorem dX3_add_1 : decode cX3_add 1 = .ok (.istore_n 2, 1) := allD_get dtX3_add 1 rfl
theorem dX3_add_2 : decode cX3_add 2 = .ok (.iload_n 2, 1) := allD_get dtX3_add 2 rfl
theorem dX3_add_3 : decode cX3_add 3 = .ok (.sipush 512, 3) := allD_get dtX3_add 3 rfl
theorem dX3_add_6 : decode cX3_add 6 = .ok (.if_icmp .ge 81, 3) := allD_get dtX3_add 4 rfl
theorem dX3_add_9 : decode cX3_add 9 = .ok (.iload_n 1, 1) := allD_get dtX3_add 5 rfl
theorem dX3_add_10 : decode cX3_add 10 = .ok (.iload_n 2, 1) := allD_get dtX3_add 6 rfl
theorem dX3_add_11 : decode cX3_add 11 = .ok (.iadd, 1) := allD_get dtX3_add 7 rfl
theorem dX3_add_12 : decode cX3_add 12 = .ok (.sipush 511, 3) := allD_get dtX3_add 8 rfl
theorem dX3_add_15 : decode cX3_add 15 = .ok (.iand, 1) := allD_get dtX3_add 9 rfl
theorem dX3_add_16 : decode cX3_add 16 = .ok (.istore_n 3, 1) := allD_get dtX3_add 10 rfl
theorem dX3_add_17 : decode cX3_add 17 = .ok (.aload_n 0, 1) := allD_get dtX3_add 11 rfl
theorem dX3_add_18 : decode cX3_add 18 = .ok (.getfield 13, 3) := allD_get dtX3_add 12 rfl
theorem dX3_add_21 : decode cX3_add 21 = .ok (.iload_n 3, 1) := allD_get dtX3_add 13 rfl
theorem dX3_add_22 : decode cX3_add 22 = .ok (.iaload, 1) := allD_get dtX3_add 14 rfl
theorem dX3_add_23 : decode cX3_add 23 = .ok (.ifCond .ne 20, 3) := allD_get dtX3_add 15 rfl
theorem dX3_add_26 : decode cX3_add 26 = .ok (.aload_n 0, 1) := allD_get dtX3_add 16 rfl
theorem dX3_add_27 : decode cX3_add 27 = .ok (.getfield 9, 3) := allD_get dtX3_add 17 rfl
theorem dX3_add_30 : decode cX3_add 30 = .ok (.iload_n 3, 1) := allD_get dtX3_add 18 rfl
theorem dX3_add_31 : decode cX3_add 31 = .ok (.iload_n 1, 1) := allD_get dtX3_add 19 rfl
theorem dX3_add_32 : decode cX3_add 32 = .ok (.iastore, 1) := allD_get dtX3_add 20 rfl
theorem dX3_add_33 : decode cX3_add 33 = .ok (.aload_n 0, 1) := allD_get dtX3_add 21 rfl
theorem dX3_add_34 : decode cX3_add 34 = .ok (.dup, 1) := allD_get dtX3_add 22 rfl
theorem dX3_add_35 : decode cX3_add 35 = .ok (.getfield 16, 3) := allD_get dtX3_add 23 rfl
theorem dX3_add_38 : decode cX3_add 38 = .ok (.iconst 1, 1) := allD_get dtX3_add 24 rfl
theorem dX3_add_39 : decode cX3_add 39 = .ok (.iadd, 1) := allD_get dtX3_add 25 rfl
theorem dX3_add_40 : decode cX3_add 40 = .ok (.putfield 16, 3) := allD_get dtX3_add 26 rfl
theorem dX3_add_43 : decode cX3_add 43 = .ok (.aload_n 0, 1) := allD_get dtX3_add 27 rfl
theorem dX3_add_44 : decode cX3_add 44 = .ok (.getfield 9, 3) := allD_get dtX3_add 28 rfl
theorem dX3_add_47 : decode cX3_add 47 = .ok (.iload_n 3, 1) := allD_get dtX3_add 29 rfl
theorem dX3_add_48 : decode cX3_add 48 = .ok (.iaload, 1) := allD_get dtX3_add 30 rfl
theorem dX3_add_49 : decode cX3_add 49 = .ok (.iload_n 1, 1) := allD_get dtX3_add 31 rfl
theorem dX3_add_50 : decode cX3_add 50 = .ok (.if_icmp .ne 31, 3) := allD_get dtX3_add 32 rfl
theorem dX3_add_53 : decode cX3_add 53 = .ok (.aload_n 0, 1) := allD_get dtX3_add 33 rfl
theorem dX3_add_54 : decode cX3_add 54 = .ok (.getfield 13, 3) := allD_get dtX3_add 34 rfl
theorem dX3_add_57 : decode cX3_add 57 = .ok (.iload_n 3, 1) := allD_get dtX3_add 35 rfl
theorem dX3_add_58 : decode cX3_add 58 = .ok (.dup2, 1) := allD_get dtX3_add 36 rfl
theorem dX3_add_59 : decode cX3_add 59 = .ok (.iaload, 1) := allD_get dtX3_add 37 rfl
theorem dX3_add_60 : decode cX3_add 60 = .ok (.iconst 1, 1) := allD_get dtX3_add 38 rfl
theorem dX3_add_61 : decode cX3_add 61 = .ok (.iadd, 1) := allD_get dtX3_add 39 rfl
theorem dX3_add_62 : decode cX3_add 62 = .ok (.iastore, 1) := allD_get dtX3_add 40 rfl
theorem dX3_add_63 : decode cX3_add 63 = .ok (.aload_n 0, 1) := allD_get dtX3_add 41 rfl
theorem dX3_add_64 : decode cX3_add 64 = .ok (.aload_n 0, 1) := allD_get dtX3_add 42 rfl
theorem dX3_add_65 : decode cX3_add 65 = .ok (.getfield 20, 3) := allD_get dtX3_add 43 rfl
theorem dX3_add_68 : decode cX3_add 68 = .ok (.aload_n 0, 1) := allD_get dtX3_add 44 rfl
theorem dX3_add_69 : decode cX3_add 69 = .ok (.getfield 13, 3) := allD_get dtX3_add 45 rfl
theorem dX3_add_72 : decode cX3_add 72 = .ok (.iload_n 3, 1) := allD_get dtX3_add 46 rfl
theorem dX3_add_73 : decode cX3_add 73 = .ok (.iaload, 1) := allD_get dtX3_add 47 rfl
theorem dX3_add_74 : decode cX3_add 74 = .ok (.invokestatic 52, 3) := allD_get dtX3_add 48 rfl
theorem dX3_add_77 : decode cX3_add 77 = .ok (.putfield 20, 3) := allD_get dtX3_add 49 rfl
theorem dX3_add_80 : decode cX3_add 80 = .ok (.return_, 1) := allD_get dtX3_add 50 rfl
theorem dX3_add_81 : decode cX3_add 81 = .ok (.iinc 2 1, 3) := allD_get dtX3_add 51 rfl
theorem dX3_add_84 : decode cX3_add 84 = .ok (.goto (-82), 3) := allD_get dtX3_add 52 rfl
theorem dX3_add_87 : decode cX3_add 87 = .ok (.return_, 1) := allD_get dtX3_add 53 rfl
