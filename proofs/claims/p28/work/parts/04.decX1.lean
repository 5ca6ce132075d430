/-! the instructions of X1's methods, by program -/
def tbX1_init : List (Nat × Instr × Nat) := [(0, .aload_n 0, 1), (1, .invokespecial 3, 3), (4, .aload_n 0, 1), (5, .bipush 16, 2), (7, .newarray .int, 2), (9, .putfield 9, 3), (12, .aload_n 0, 1), (13, .bipush 16, 2), (15, .newarray .int, 2), (17, .putfield 15, 3), (20, .aload_n 0, 1), (21, .bipush 16, 2), (23, .newarray .int, 2), (25, .putfield 18, 3), (28, .aload_n 0, 1), (29, .bipush 16, 2), (31, .newarray .int, 2), (33, .putfield 21, 3), (36, .aload_n 0, 1), (37, .bipush 16, 2), (39, .newarray .int, 2), (41, .putfield 24, 3), (44, .aload_n 0, 1), (45, .bipush 16, 2), (47, .newarray .int, 2), (49, .putfield 27, 3), (52, .aload_n 0, 1), (53, .bipush 16, 2), (55, .newarray .int, 2), (57, .putfield 30, 3), (60, .return_, 1)]
set_option maxRecDepth 100000 in
theorem dtX1_init : allD cX1_init tbX1_init = true := by decide +kernel
theorem dX1_init_0 : decode cX1_init 0 = .ok (.aload_n 0, 1) := allD_get dtX1_init 0 rfl
theorem dX1_init_1 : decode cX1_init 1 = .ok (.invokespecial 3, 3) := allD_get dtX1_init 1 rfl
theorem dX1_init_4 : decode cX1_init 4 = .ok (.aload_n 0, 1) := allD_get dtX1_init 2 rfl
theorem dX1_init_5 : decode cX1_init 5 = .ok (.bipush 16, 2) := allD_get dtX1_init 3 rfl
theorem dX1_init_7 : decode cX1_init 7 = .ok (.newarray .int, 2) := allD_get dtX1_init 4 rfl
theorem dX1_init_9 : decode cX1_init 9 = .ok (.putfield 9, 3) := allD_get dtX1_init 5 rfl
theorem dX1_init_12 : decode cX1_init 12 = .ok (.aload_n 0, 1) := allD_get dtX1_init 6 rfl
theorem dX1_init_13 : decode cX1_init 13 = .ok (.bipush 16, 2) := allD_get dtX1_init 7 rfl
theorem dX1_init_15 : decode cX1_init 15 = .ok (.newarray .int, 2) := allD_get dtX1_init 8 rfl
theorem dX1_init_17 : decode cX1_init 17 = .ok (.putfield 15, 3) := allD_get dtX1_init 9 rfl
theorem dX1_init_20 : decode cX1_init 20 = .ok (.aload_n 0, 1) := allD_get dtX1_init 10 rfl
theorem dX1_init_21 : decode cX1_init 21 = .ok (.bipush 16, 2) := allD_get dtX1_init 11 rfl
theorem dX1_init_23 : decode cX1_init 23 = .ok (.newarray .int, 2) := allD_get dtX1_init 12 rfl
theorem dX1_init_25 : decode cX1_init 25 = .ok (.putfield 18, 3) := allD_get dtX1_init 13 rfl
theorem dX1_init_28 : decode cX1_init 28 = .ok (.aload_n 0, 1) := allD_get dtX1_init 14 rfl
theorem dX1_init_29 : decode cX1_init 29 = .ok (.bipush 16, 2) := allD_get dtX1_init 15 rfl
theorem dX1_init_31 : decode cX1_init 31 = .ok (.newarray .int, 2) := allD_get dtX1_init 16 rfl
theorem dX1_init_33 : decode cX1_init 33 = .ok (.putfield 21, 3) := allD_get dtX1_init 17 rfl
theorem dX1_init_36 : decode cX1_init 36 = .ok (.aload_n 0, 1) := allD_get dtX1_init 18 rfl
theorem dX1_init_37 : decode cX1_init 37 = .ok (.bipush 16, 2) := allD_get dtX1_init 19 rfl
theorem dX1_init_39 : decode cX1_init 39 = .ok (.newarray .int, 2) := allD_get dtX1_init 20 rfl
theorem dX1_init_41 : decode cX1_init 41 = .ok (.putfield 24, 3) := allD_get dtX1_init 21 rfl
theorem dX1_init_44 : decode cX1_init 44 = .ok (.aload_n 0, 1) := allD_get dtX1_init 22 rfl
theorem dX1_init_45 : decode cX1_init 45 = .ok (.bipush 16, 2) := allD_get dtX1_init 23 rfl
theorem dX1_init_47 : decode cX1_init 47 = .ok (.newarray .int, 2) := allD_get dtX1_init 24 rfl
theorem dX1_init_49 : decode cX1_init 49 = .ok (.putfield 27, 3) := allD_get dtX1_init 25 rfl
theorem dX1_init_52 : decode cX1_init 52 = .ok (.aload_n 0, 1) := allD_get dtX1_init 26 rfl
theorem dX1_init_53 : decode cX1_init 53 = .ok (.bipush 16, 2) := allD_get dtX1_init 27 rfl
theorem dX1_init_55 : decode cX1_init 55 = .ok (.newarray .int, 2) := allD_get dtX1_init 28 rfl
theorem dX1_init_57 : decode cX1_init 57 = .ok (.putfield 30, 3) := allD_get dtX1_init 29 rfl
theorem dX1_init_60 : decode cX1_init 60 = .ok (.return_, 1) := allD_get dtX1_init 30 rfl
def tbX1_group : List (Nat × Instr × Nat) := [(0, .aload_n 0, 1), (1, .iconst 0, 1), (2, .putfield 33, 3), (5, .iconst 0, 1), (6, .istore_n 2, 1), (7, .iload_n 2, 1), (8, .aload_n 1, 1), (9, .getfield 37, 3), (12, .if_icmp .ge 119, 3), (15, .aload_n 1, 1), (16, .iload_n 2, 1), (17, .invokevirtual 42, 3), (20, .istore_n 3, 1), (21, .aload_n 1, 1), (22, .iload_n 2, 1), (23, .invokevirtual 46, 3), (26, .istore 4, 2), (28, .aload_n 0, 1), (29, .iload_n 3, 1), (30, .iload 4, 2), (32, .invokevirtual 49, 3), (35, .istore 5, 2), (37, .iload 5, 2), (39, .bipush (-5), 2), (41, .if_icmp .ne 39, 3), (44, .aload_n 0, 1), (45, .getfield 33, 3), (48, .istore 5, 2), (50, .aload_n 0, 1), (51, .dup, 1), (52, .getfield 33, 3), (55, .iconst 1, 1), (56, .iadd, 1), (57, .putfield 33, 3), (60, .aload_n 0, 1), (61, .getfield 24, 3), (64, .iload 5, 2), (66, .iload_n 3, 1), (67, .iastore, 1), (68, .aload_n 0, 1), (69, .getfield 27, 3), (72, .iload 5, 2), (74, .iload 4, 2), (76, .iastore, 1), (77, .goto 40, 3), (80, .aload_n 0, 1), (81, .getfield 24, 3), (84, .iload 5, 2), (86, .iload_n 3, 1), (87, .aload_n 0, 1), (88, .getfield 24, 3), (91, .iload 5, 2), (93, .iaload, 1), (94, .invokestatic 53, 3), (97, .iastore, 1), (98, .aload_n 0, 1), (99, .getfield 27, 3), (102, .iload 5, 2), (104, .iload 4, 2), (106, .aload_n 0, 1), (107, .getfield 27, 3), (110, .iload 5, 2), (112, .iaload, 1), (113, .invokestatic 58, 3), (116, .iastore, 1), (117, .aload_n 0, 1), (118, .getfield 9, 3), (121, .iload_n 2, 1), (122, .iload 5, 2), (124, .iastore, 1), (125, .iinc 2 1, 3), (128, .goto (-121), 3), (131, .aload_n 0, 1), (132, .aload_n 1, 1), (133, .getfield 37, 3), (136, .invokevirtual 61, 3), (139, .return_, 1)]
set_option maxRecDepth 100000 in
theorem dtX1_group : allD cX1_group tbX1_group = true := by decide +kernel
theorem dX1_group_0 : decode cX1_group 0 = .ok (.aload_n 0, 1) := allD_get dtX1_group 0 rfl
theorem dX1_group_1 : decode cX1_group 1 = .ok (.iconst 0, 1) := allD_get dtX1_group 1 rfl
theorem dX1_group_2 : decode cX1_group 2 = .ok (.putfield 33, 3) := allD_get dtX1_group 2 rfl
theorem dX1_group_5 : decode cX1_group 5 = .ok (.iconst 0, 1) := allD_get dtX1_group 3 rfl
theorem dX1_group_6 : decode cX1_group 6 = .ok (.istore_n 2, 1) := allD_get dtX1_group 4 rfl
theorem dX1_group_7 : decode cX1_group 7 = .ok (.iload_n 2, 1) := allD_get dtX1_group 5 rfl
theorem dX1_group_8 : decode cX1_group 8 = .ok (.aload_n 1, 1) := allD_get dtX1_group 6 rfl
theorem dX1_group_9 : decode cX1_group 9 = .ok (.getfield 37, 3) := allD_get dtX1_group 7 rfl
theorem dX1_group_12 : decode cX1_group 12 = .ok (.if_icmp .ge 119, 3) := allD_get dtX1_group 8 rfl
theorem dX1_group_15 : decode cX1_group 15 = .ok (.aload_n 1, 1) := allD_get dtX1_group 9 rfl
theorem dX1_group_16 : decode cX1_group 16 = .ok (.iload_n 2, 1) := allD_get dtX1_group 10 rfl
theorem dX1_group_17 : decode cX1_group 17 = .ok (.invokevirtual 42, 3) := allD_get dtX1_group 11 rfl
theorem dX1_group_20 : decode cX1_group 20 = .ok (.istore_n 3, 1) := allD_get dtX1_group 12 rfl
theorem dX1_group_21 : decode cX1_group 21 = .ok (.aload_n 1, 1) := allD_get dtX1_group 13 rfl
theorem dX1_group_22 : decode cX1_group 22 = .ok (.iload_n 2, 1) := allD_get dtX1_group 14 rfl
theorem dX1_group_23 : decode cX1_group 23 = .ok (.invokevirtual 46, 3) := allD_get dtX1_group 15 rfl
theorem dX1_group_26 : decode cX1_group 26 = .ok (.istore 4, 2) := allD_get dtX1_group 16 rfl
theorem dX1_group_28 : decode cX1_group 28 = .ok (.aload_n 0, 1) := allD_get dtX1_group 17 rfl
theorem dX1_group_29 : decode cX1_group 29 = .ok (.iload_n 3, 1) := allD_get dtX1_group 18 rfl
theorem dX1_group_30 : decode cX1_group 30 = .ok (.iload 4, 2) := allD_get dtX1_group 19 rfl
theorem dX1_group_32 : decode cX1_group 32 = .ok (.invokevirtual 49, 3) := allD_get dtX1_group 20 rfl
theorem dX1_group_35 : decode cX1_group 35 = .ok (.istore 5, 2) := allD_get dtX1_group 21 rfl
theorem dX1_group_37 : decode cX1_group 37 = .ok (.iload 5, 2) := allD_get dtX1_group 22 rfl
theorem dX1_group_39 : decode cX1_group 39 = .ok (.bipush (-5), 2) := allD_get dtX1_group 23 rfl
theorem dX1_group_41 : decode cX1_group 41 = .ok (.if_icmp .ne 39, 3) := allD_get dtX1_group 24 rfl
theorem dX1_group_44 : decode cX1_group 44 = .ok (.aload_n 0, 1) := allD_get dtX1_group 25 rfl
theorem dX1_group_45 : decode cX1_group 45 = .ok (.getfield 33, 3) := allD_get dtX1_group 26 rfl
theorem dX1_group_48 : decode cX1_group 48 = .ok (.istore 5, 2) := allD_get dtX1_group 27 rfl
theorem dX1_group_50 : decode cX1_group 50 = .ok (.aload_n 0, 1) := allD_get dtX1_group 28 rfl
theorem dX1_group_51 : decode cX1_group 51 = .ok (.dup, 1) := allD_get dtX1_group 29 rfl
theorem dX1_group_52 : decode cX1_group 52 = .ok (.getfield 33, 3) := allD_get dtX1_group 30 rfl
theorem dX1_group_55 : decode cX1_group 55 = .ok (.iconst 1, 1) := allD_get dtX1_group 31 rfl
theorem dX1_group_56 : decode cX1_group 56 = .ok (.iadd, 1) := allD_get dtX1_group 32 rfl
theorem dX1_group_57 : decode cX1_group 57 = .ok (.putfield 33, 3) := allD_get dtX1_group 33 rfl
theorem dX1_group_60 : decode cX1_group 60 = .ok (.aload_n 0, 1) := allD_get dtX1_group 34 rfl
theorem dX1_group_61 : decode cX1_group 61 = .ok (.getfield 24, 3) := allD_get dtX1_group 35 rfl
theorem dX1_group_64 : decode cX1_group 64 = .ok (.iload 5, 2) := allD_get dtX1_group 36 rfl
theorem dX1_group_66 : decode cX1_group 66 = .ok (.iload_n 3, 1) := allD_get dtX1_group 37 rfl
theorem dX1_group_67 : decode cX1_group 67 = .ok (.iastore, 1) := allD_get dtX1_group 38 rfl
theorem dX1_group_68 : decode cX1_group 68 = .ok (.aload_n 0, 1) := allD_get dtX1_group 39 rfl
theorem dX1_group_69 : decode cX1_group 69 = .ok (.getfield 27, 3) := allD_get dtX1_group 40 rfl
theorem dX1_group_72 : decode cX1_group 72 = .ok (.iload 5, 2) := allD_get dtX1_group 41 rfl
theorem dX1_group_74 : decode cX1_group 74 = .ok (.iload 4, 2) := allD_get dtX1_group 42 rfl
theorem dX1_group_76 : decode cX1_group 76 = .ok (.iastore, 1) := allD_get dtX1_group 43 rfl
theorem dX1_group_77 : decode cX1_group 77 = .ok (.goto 40, 3) := allD_get dtX1_group 44 rfl
theorem dX1_group_80 : decode cX1_group 80 = .ok (.aload_n 0, 1) := allD_get dtX1_group 45 rfl
theorem dX1_group_81 : decode cX1_group 81 = .ok (.getfield 24, 3) := allD_get dtX1_group 46 rfl
theorem dX1_group_84 : decode cX1_group 84 = .ok (.iload 5, 2) := allD_get dtX1_group 47 rfl
theorem dX1_group_86 : decode cX1_group 86 = .ok (.iload_n 3, 1) := allD_get dtX1_group 48 rfl
theorem dX1_group_87 : decode cX1_group 87 = .ok (.aload_n 0, 1) := allD_get dtX1_group 49 rfl
theorem dX1_group_88 : decode cX1_group 88 = .ok (.getfield 24, 3) := allD_get dtX1_group 50 rfl
theorem dX1_group_91 : decode cX1_group 91 = .ok (.iload 5, 2) := allD_get dtX1_group 51 rfl
theorem dX1_group_93 : decode cX1_group 93 = .ok (.iaload, 1) := allD_get dtX1_group 52 rfl
theorem dX1_group_94 : decode cX1_group 94 = .ok (.invokestatic 53, 3) := allD_get dtX1_group 53 rfl
theorem dX1_group_97 : decode cX1_group 97 = .ok (.iastore, 1) := allD_get dtX1_group 54 rfl
theorem dX1_group_98 : decode cX1_group 98 = .ok (.aload_n 0, 1) := allD_get dtX1_group 55 rfl
theorem dX1_group_99 : decode cX1_group 99 = .ok (.getfield 27, 3) := allD_get dtX1_group 56 rfl
theorem dX1_group_102 : decode cX1_group 102 = .ok (.iload 5, 2) := allD_get dtX1_group 57 rfl
theorem dX1_group_104 : decode cX1_group 104 = .ok (.iload 4, 2) := allD_get dtX1_group 58 rfl
theorem dX1_group_106 : decode cX1_group 106 = .ok (.aload_n 0, 1) := allD_get dtX1_group 59 rfl
theorem dX1_group_107 : decode cX1_group 107 = .ok (.getfield 27, 3) := allD_get dtX1_group 60 rfl
theorem dX1_group_110 : decode cX1_group 110 = .ok (.iload 5, 2) := allD_get dtX1_group 61 rfl
theorem dX1_group_112 : decode cX1_group 112 = .ok (.iaload, 1) := allD_get dtX1_group 62 rfl
theorem dX1_group_113 : decode cX1_group 113 = .ok (.invokestatic 58, 3) := allD_get dtX1_group 63 rfl
theorem dX1_group_116 : decode cX1_group 116 = .ok (.iastore, 1) := allD_get dtX1_group 64 rfl
theorem dX1_group_117 : decode cX1_group 117 = .ok (.aload_n 0, 1) := allD_get dtX1_group 65 rfl
theorem dX1_group_118 : decode cX1_group 118 = .ok (.getfield 9, 3) := allD_get dtX1_group 66 rfl
theorem dX1_group_121 : decode cX1_group 121 = .ok (.iload_n 2, 1) := allD_get dtX1_group 67 rfl
theorem dX1_group_122 : decode cX1_group 122 = .ok (.iload 5, 2) := allD_get dtX1_group 68 rfl
theorem dX1_group_124 : decode cX1_group 124 = .ok (.iastore, 1) := allD_get dtX1_group 69 rfl
theorem dX1_group_125 : decode cX1_group 125 = .ok (.iinc 2 1, 3) := allD_get dtX1_group 70 rfl
theorem dX1_group_128 : decode cX1_group 128 = .ok (.goto (-121), 3) := allD_get dtX1_group 71 rfl
theorem dX1_group_131 : decode cX1_group 131 = .ok (.aload_n 0, 1) := allD_get dtX1_group 72 rfl
theorem dX1_group_132 : decode cX1_group 132 = .ok (.aload_n 1, 1) := allD_get dtX1_group 73 rfl
theorem dX1_group_133 : decode cX1_group 133 = .ok (.getfield 37, 3) := allD_get dtX1_group 74 rfl
theorem dX1_group_136 : decode cX1_group 136 = .ok (.invokevirtual 61, 3) := allD_get dtX1_group 75 rfl
theorem dX1_group_139 : decode cX1_group 139 = .ok (.return_, 1) := allD_get dtX1_group 76 rfl
def tbX1_bestFor : List (Nat × Instr × Nat) := [(0, .bipush (-5), 2), (2, .istore_n 3, 1), (3, .iconst 0, 1), (4, .istore 4, 2), (6, .iconst 0, 1), (7, .istore 5, 2), (9, .iload 5, 2), (11, .aload_n 0, 1), (12, .getfield 33, 3), (15, .if_icmp .ge 84, 3), (18, .aload_n 0, 1), (19, .getfield 24, 3), (22, .iload 5, 2), (24, .iaload, 1), (25, .istore 6, 2), (27, .aload_n 0, 1), (28, .getfield 27, 3), (31, .iload 5, 2), (33, .iaload, 1), (34, .istore 7, 2), (36, .iload_n 2, 1), (37, .iload 7, 2), (39, .invokestatic 53, 3), (42, .iload_n 1, 1), (43, .iload 6, 2), (45, .invokestatic 58, 3), (48, .isub, 1), (49, .iconst 1, 1), (50, .iadd, 1), (51, .istore 8, 2), (53, .iload_n 2, 1), (54, .iload_n 1, 1), (55, .isub, 1), (56, .iconst 1, 1), (57, .iadd, 1), (58, .iload 7, 2), (60, .iload 6, 2), (62, .isub, 1), (63, .iconst 1, 1), (64, .iadd, 1), (65, .invokestatic 53, 3), (68, .istore 9, 2), (70, .iload 8, 2), (72, .iload 4, 2), (74, .if_icmp .le 19, 3), (77, .iconst 2, 1), (78, .iload 8, 2), (80, .imul, 1), (81, .iload 9, 2), (83, .if_icmp .lt 10, 3), (86, .iload 5, 2), (88, .istore_n 3, 1), (89, .iload 8, 2), (91, .istore 4, 2), (93, .iinc 5 1, 3), (96, .goto (-87), 3), (99, .iload_n 3, 1), (100, .ireturn, 1)]
set_option maxRecDepth 100000 in
theorem dtX1_bestFor : allD cX1_bestFor tbX1_bestFor = true := by decide +kernel
theorem dX1_bestFor_0 : decode cX1_bestFor 0 = .ok (.bipush (-5), 2) := allD_get dtX1_bestFor 0 rfl
theorem dX1_bestFor_2 : decode cX1_bestFor 2 = .ok (.istore_n 3, 1) := allD_get dtX1_bestFor 1 rfl
theorem dX1_bestFor_3 : decode cX1_bestFor 3 = .ok (.iconst 0, 1) := allD_get dtX1_bestFor 2 rfl
theorem dX1_bestFor_4 : decode cX1_bestFor 4 = .ok (.istore 4, 2) := allD_get dtX1_bestFor 3 rfl
theorem dX1_bestFor_6 : decode cX1_bestFor 6 = .ok (.iconst 0, 1) := allD_get dtX1_bestFor 4 rfl
theorem dX1_bestFor_7 : decode cX1_bestFor 7 = .ok (.istore 5, 2) := allD_get dtX1_bestFor 5 rfl
theorem dX1_bestFor_9 : decode cX1_bestFor 9 = .ok (.iload 5, 2) := allD_get dtX1_bestFor 6 rfl
theorem dX1_bestFor_11 : decode cX1_bestFor 11 = .ok (.aload_n 0, 1) := allD_get dtX1_bestFor 7 rfl
theorem dX1_bestFor_12 : decode cX1_bestFor 12 = .ok (.getfield 33, 3) := allD_get dtX1_bestFor 8 rfl
theorem dX1_bestFor_15 : decode cX1_bestFor 15 = .ok (.if_icmp .ge 84, 3) := allD_get dtX1_bestFor 9 rfl
theorem dX1_bestFor_18 : decode cX1_bestFor 18 = .ok (.aload_n 0, 1) := allD_get dtX1_bestFor 10 rfl
theorem dX1_bestFor_19 : decode cX1_bestFor 19 = .ok (.getfield 24, 3) := allD_get dtX1_bestFor 11 rfl
theorem dX1_bestFor_22 : decode cX1_bestFor 22 = .ok (.iload 5, 2) := allD_get dtX1_bestFor 12 rfl
theorem dX1_bestFor_24 : decode cX1_bestFor 24 = .ok (.iaload, 1) := allD_get dtX1_bestFor 13 rfl
theorem dX1_bestFor_25 : decode cX1_bestFor 25 = .ok (.istore 6, 2) := allD_get dtX1_bestFor 14 rfl
theorem dX1_bestFor_27 : decode cX1_bestFor 27 = .ok (.aload_n 0, 1) := allD_get dtX1_bestFor 15 rfl
theorem dX1_bestFor_28 : decode cX1_bestFor 28 = .ok (.getfield 27, 3) := allD_get dtX1_bestFor 16 rfl
theorem dX1_bestFor_31 : decode cX1_bestFor 31 = .ok (.iload 5, 2) := allD_get dtX1_bestFor 17 rfl
theorem dX1_bestFor_33 : decode cX1_bestFor 33 = .ok (.iaload, 1) := allD_get dtX1_bestFor 18 rfl
theorem dX1_bestFor_34 : decode cX1_bestFor 34 = .ok (.istore 7, 2) := allD_get dtX1_bestFor 19 rfl
theorem dX1_bestFor_36 : decode cX1_bestFor 36 = .ok (.iload_n 2, 1) := allD_get dtX1_bestFor 20 rfl
theorem dX1_bestFor_37 : decode cX1_bestFor 37 = .ok (.iload 7, 2) := allD_get dtX1_bestFor 21 rfl
theorem dX1_bestFor_39 : decode cX1_bestFor 39 = .ok (.invokestatic 53, 3) := allD_get dtX1_bestFor 22 rfl
theorem dX1_bestFor_42 : decode cX1_bestFor 42 = .ok (.iload_n 1, 1) := allD_get dtX1_bestFor 23 rfl
theorem dX1_bestFor_43 : decode cX1_bestFor 43 = .ok (.iload 6, 2) := allD_get dtX1_bestFor 24 rfl
theorem dX1_bestFor_45 : decode cX1_bestFor 45 = .ok (.invokestatic 58, 3) := allD_get dtX1_bestFor 25 rfl
theorem dX1_bestFor_48 : decode cX1_bestFor 48 = .ok (.isub, 1) := allD_get dtX1_bestFor 26 rfl
theorem dX1_bestFor_49 : decode cX1_bestFor 49 = .ok (.iconst 1, 1) := allD_get dtX1_bestFor 27 rfl
theorem dX1_bestFor_50 : decode cX1_bestFor 50 = .ok (.iadd, 1) := allD_get dtX1_bestFor 28 rfl
theorem dX1_bestFor_51 : decode cX1_bestFor 51 = .ok (.istore 8, 2) := allD_get dtX1_bestFor 29 rfl
theorem dX1_bestFor_53 : decode cX1_bestFor 53 = .ok (.iload_n 2, 1) := allD_get dtX1_bestFor 30 rfl
theorem dX1_bestFor_54 : decode cX1_bestFor 54 = .ok (.iload_n 1, 1) := allD_get dtX1_bestFor 31 rfl
theorem dX1_bestFor_55 : decode cX1_bestFor 55 = .ok (.isub, 1) := allD_get dtX1_bestFor 32 rfl
theorem dX1_bestFor_56 : decode cX1_bestFor 56 = .ok (.iconst 1, 1) := allD_get dtX1_bestFor 33 rfl
theorem dX1_bestFor_57 : decode cX1_bestFor 57 = .ok (.iadd, 1) := allD_get dtX1_bestFor 34 rfl
theorem dX1_bestFor_58 : decode cX1_bestFor 58 = .ok (.iload 7, 2) := allD_get dtX1_bestFor 35 rfl
theorem dX1_bestFor_60 : decode cX1_bestFor 60 = .ok (.iload 6, 2) := allD_get dtX1_bestFor 36 rfl
theorem dX1_bestFor_62 : decode cX1_bestFor 62 = .ok (.isub, 1) := allD_get dtX1_bestFor 37 rfl
theorem dX1_bestFor_63 : decode cX1_bestFor 63 = .ok (.iconst 1, 1) := allD_get dtX1_bestFor 38 rfl
theorem dX1_bestFor_64 : decode cX1_bestFor 64 = .ok (.iadd, 1) := allD_get dtX1_bestFor 39 rfl
theorem dX1_bestFor_65 : decode cX1_bestFor 65 = .ok (.invokestatic 53, 3) := allD_get dtX1_bestFor 40 rfl
theorem dX1_bestFor_68 : decode cX1_bestFor 68 = .ok (.istore 9, 2) := allD_get dtX1_bestFor 41 rfl
theorem dX1_bestFor_70 : decode cX1_bestFor 70 = .ok (.iload 8, 2) := allD_get dtX1_bestFor 42 rfl
theorem dX1_bestFor_72 : decode cX1_bestFor 72 = .ok (.iload 4, 2) := allD_get dtX1_bestFor 43 rfl
theorem dX1_bestFor_74 : decode cX1_bestFor 74 = .ok (.if_icmp .le 19, 3) := allD_get dtX1_bestFor 44 rfl
theorem dX1_bestFor_77 : decode cX1_bestFor 77 = .ok (.iconst 2, 1) := allD_get dtX1_bestFor 45 rfl
theorem dX1_bestFor_78 : decode cX1_bestFor 78 = .ok (.iload 8, 2) := allD_get dtX1_bestFor 46 rfl
theorem dX1_bestFor_80 : decode cX1_bestFor 80 = .ok (.imul, 1) := allD_get dtX1_bestFor 47 rfl
theorem dX1_bestFor_81 : decode cX1_bestFor 81 = .ok (.iload 9, 2) := allD_get dtX1_bestFor 48 rfl
theorem dX1_bestFor_83 : decode cX1_bestFor 83 = .ok (.if_icmp .lt 10, 3) := allD_get dtX1_bestFor 49 rfl
theorem dX1_bestFor_86 : decode cX1_bestFor 86 = .ok (.iload 5, 2) := allD_get dtX1_bestFor 50 rfl
theorem dX1_bestFor_88 : decode cX1_bestFor 88 = .ok (.istore_n 3, 1) := allD_get dtX1_bestFor 51 rfl
theorem dX1_bestFor_89 : decode cX1_bestFor 89 = .ok (.iload 8, 2) := allD_get dtX1_bestFor 52 rfl
theorem dX1_bestFor_91 : decode cX1_bestFor 91 = .ok (.istore 4, 2) := allD_get dtX1_bestFor 53 rfl
theorem dX1_bestFor_93 : decode cX1_bestFor 93 = .ok (.iinc 5 1, 3) := allD_get dtX1_bestFor 54 rfl
theorem dX1_bestFor_96 : decode cX1_bestFor 96 = .ok (.goto (-87), 3) := allD_get dtX1_bestFor 55 rfl
theorem dX1_bestFor_99 : decode cX1_bestFor 99 = .ok (.iload_n 3, 1) := allD_get dtX1_bestFor 56 rfl
theorem dX1_bestFor_100 : decode cX1_bestFor 100 = .ok (.ireturn, 1) := allD_get dtX1_bestFor 57 rfl
def tbX1_rank : List (Nat × Instr × Nat) := [(0, .iconst 0, 1), (1, .istore_n 2, 1), (2, .iload_n 2, 1), (3, .aload_n 0, 1), (4, .getfield 33, 3), (7, .if_icmp .ge 85, 3), (10, .iconst 0, 1), (11, .istore_n 3, 1), (12, .iconst 0, 1), (13, .istore 4, 2), (15, .iload 4, 2), (17, .aload_n 0, 1), (18, .getfield 33, 3), (21, .if_icmp .ge 27, 3), (24, .iload_n 3, 1), (25, .aload_n 0, 1), (26, .iload 4, 2), (28, .iload_n 2, 1), (29, .invokevirtual 65, 3), (32, .ifCond .eq 7, 3), (35, .iconst 1, 1), (36, .goto 4, 3), (39, .iconst 0, 1), (40, .iadd, 1), (41, .istore_n 3, 1), (42, .iinc 4 1, 3), (45, .goto (-30), 3), (48, .aload_n 0, 1), (49, .getfield 30, 3), (52, .iload_n 2, 1), (53, .iload_n 3, 1), (54, .iastore, 1), (55, .aload_n 0, 1), (56, .getfield 15, 3), (59, .iload_n 3, 1), (60, .aload_n 0, 1), (61, .getfield 24, 3), (64, .iload_n 2, 1), (65, .iaload, 1), (66, .iastore, 1), (67, .aload_n 0, 1), (68, .getfield 18, 3), (71, .iload_n 3, 1), (72, .aload_n 0, 1), (73, .getfield 27, 3), (76, .iload_n 2, 1), (77, .iaload, 1), (78, .iastore, 1), (79, .aload_n 0, 1), (80, .getfield 21, 3), (83, .iload_n 3, 1), (84, .iconst 0, 1), (85, .iastore, 1), (86, .iinc 2 1, 3), (89, .goto (-87), 3), (92, .iconst 0, 1), (93, .istore_n 2, 1), (94, .iload_n 2, 1), (95, .iload_n 1, 1), (96, .if_icmp .ge 38, 3), (99, .aload_n 0, 1), (100, .getfield 30, 3), (103, .aload_n 0, 1), (104, .getfield 9, 3), (107, .iload_n 2, 1), (108, .iaload, 1), (109, .iaload, 1), (110, .istore_n 3, 1), (111, .aload_n 0, 1), (112, .getfield 9, 3), (115, .iload_n 2, 1), (116, .iload_n 3, 1), (117, .iastore, 1), (118, .aload_n 0, 1), (119, .getfield 21, 3), (122, .iload_n 3, 1), (123, .dup2, 1), (124, .iaload, 1), (125, .iconst 1, 1), (126, .iadd, 1), (127, .iastore, 1), (128, .iinc 2 1, 3), (131, .goto (-37), 3), (134, .return_, 1)]
set_option maxRecDepth 100000 in
theorem dtX1_rank : allD cX1_rank tbX1_rank = true := by decide +kernel
theorem dX1_rank_0 : decode cX1_rank 0 = .ok (.iconst 0, 1) := allD_get dtX1_rank 0 rfl
theorem dX1_rank_1 : decode cX1_rank 1 = .ok (.istore_n 2, 1) := allD_get dtX1_rank 1 rfl
theorem dX1_rank_2 : decode cX1_rank 2 = .ok (.iload_n 2, 1) := allD_get dtX1_rank 2 rfl
theorem dX1_rank_3 : decode cX1_rank 3 = .ok (.aload_n 0, 1) := allD_get dtX1_rank 3 rfl
theorem dX1_rank_4 : decode cX1_rank 4 = .ok (.getfield 33, 3) := allD_get dtX1_rank 4 rfl
theorem dX1_rank_7 : decode cX1_rank 7 = .ok (.if_icmp .ge 85, 3) := allD_get dtX1_rank 5 rfl
theorem dX1_rank_10 : decode cX1_rank 10 = .ok (.iconst 0, 1) := allD_get dtX1_rank 6 rfl
theorem dX1_rank_11 : decode cX1_rank 11 = .ok (.istore_n 3, 1) := allD_get dtX1_rank 7 rfl
theorem dX1_rank_12 : decode cX1_rank 12 = .ok (.iconst 0, 1) := allD_get dtX1_rank 8 rfl
theorem dX1_rank_13 : decode cX1_rank 13 = .ok (.istore 4, 2) := allD_get dtX1_rank 9 rfl
theorem dX1_rank_15 : decode cX1_rank 15 = .ok (.iload 4, 2) := allD_get dtX1_rank 10 rfl
theorem dX1_rank_17 : decode cX1_rank 17 = .ok (.aload_n 0, 1) := allD_get dtX1_rank 11 rfl
theorem dX1_rank_18 : decode cX1_rank 18 = .ok (.getfield 33, 3) := allD_get dtX1_rank 12 rfl
theorem dX1_rank_21 : decode cX1_rank 21 = .ok (.if_icmp .ge 27, 3) := allD_get dtX1_rank 13 rfl
theorem dX1_rank_24 : decode cX1_rank 24 = .ok (.iload_n 3, 1) := allD_get dtX1_rank 14 rfl
theorem dX1_rank_25 : decode cX1_rank 25 = .ok (.aload_n 0, 1) := allD_get dtX1_rank 15 rfl
theorem dX1_rank_26 : decode cX1_rank 26 = .ok (.iload 4, 2) := allD_get dtX1_rank 16 rfl
theorem dX1_rank_28 : decode cX1_rank 28 = .ok (.iload_n 2, 1) := allD_get dtX1_rank 17 rfl
theorem dX1_rank_29 : decode cX1_rank 29 = .ok (.invokevirtual 65, 3) := allD_get dtX1_rank 18 rfl
theorem dX1_rank_32 : decode cX1_rank 32 = .ok (.ifCond .eq 7, 3) := allD_get dtX1_rank 19 rfl
theorem dX1_rank_35 : decode cX1_rank 35 = .ok (.iconst 1, 1) := allD_get dtX1_rank 20 rfl
theorem dX1_rank_36 : decode cX1_rank 36 = .ok (.goto 4, 3) := allD_get dtX1_rank 21 rfl
theorem dX1_rank_39 : decode cX1_rank 39 = .ok (.iconst 0, 1) := allD_get dtX1_rank 22 rfl
theorem dX1_rank_40 : decode cX1_rank 40 = .ok (.iadd, 1) := allD_get dtX1_rank 23 rfl
theorem dX1_rank_41 : decode cX1_rank 41 = .ok (.istore_n 3, 1) := allD_get dtX1_rank 24 rfl
theorem dX1_rank_42 : decode cX1_rank 42 = .ok (.iinc 4 1, 3) := allD_get dtX1_rank 25 rfl
theorem dX1_rank_45 : decode cX1_rank 45 = .ok (.goto (-30), 3) := allD_get dtX1_rank 26 rfl
theorem dX1_rank_48 : decode cX1_rank 48 = .ok (.aload_n 0, 1) := allD_get dtX1_rank 27 rfl
theorem dX1_rank_49 : decode cX1_rank 49 = .ok (.getfield 30, 3) := allD_get dtX1_rank 28 rfl
theorem dX1_rank_52 : decode cX1_rank 52 = .ok (.iload_n 2, 1) := allD_get dtX1_rank 29 rfl
theorem dX1_rank_53 : decode cX1_rank 53 = .ok (.iload_n 3, 1) := allD_get dtX1_rank 30 rfl
theorem dX1_rank_54 : decode cX1_rank 54 = .ok (.iastore, 1) := allD_get dtX1_rank 31 rfl
theorem dX1_rank_55 : decode cX1_rank 55 = .ok (.aload_n 0, 1) := allD_get dtX1_rank 32 rfl
theorem dX1_rank_56 : decode cX1_rank 56 = .ok (.getfield 15, 3) := allD_get dtX1_rank 33 rfl
theorem dX1_rank_59 : decode cX1_rank 59 = .ok (.iload_n 3, 1) := allD_get dtX1_rank 34 rfl
theorem dX1_rank_60 : decode cX1_rank 60 = .ok (.aload_n 0, 1) := allD_get dtX1_rank 35 rfl
theorem dX1_rank_61 : decode cX1_rank 61 = .ok (.getfield 24, 3) := allD_get dtX1_rank 36 rfl
theorem dX1_rank_64 : decode cX1_rank 64 = .ok (.iload_n 2, 1) := allD_get dtX1_rank 37 rfl
theorem dX1_rank_65 : decode cX1_rank 65 = .ok (.iaload, 1) := allD_get dtX1_rank 38 rfl
theorem dX1_rank_66 : decode cX1_rank 66 = .ok (.iastore, 1) := allD_get dtX1_rank 39 rfl
theorem dX1_rank_67 : decode cX1_rank 67 = .ok (.aload_n 0, 1) := allD_get dtX1_rank 40 rfl
theorem dX1_rank_68 : decode cX1_rank 68 = .ok (.getfield 18, 3) := allD_get dtX1_rank 41 rfl
theorem dX1_rank_71 : decode cX1_rank 71 = .ok (.iload_n 3, 1) := allD_get dtX1_rank 42 rfl
theorem dX1_rank_72 : decode cX1_rank 72 = .ok (.aload_n 0, 1) := allD_get dtX1_rank 43 rfl
theorem dX1_rank_73 : decode cX1_rank 73 = .ok (.getfield 27, 3) := allD_get dtX1_rank 44 rfl
theorem dX1_rank_76 : decode cX1_rank 76 = .ok (.iload_n 2, 1) := allD_get dtX1_rank 45 rfl
theorem dX1_rank_77 : decode cX1_rank 77 = .ok (.iaload, 1) := allD_get dtX1_rank 46 rfl
theorem dX1_rank_78 : decode cX1_rank 78 = .ok (.iastore, 1) := allD_get dtX1_rank 47 rfl
theorem dX1_rank_79 : decode cX1_rank 79 = .ok (.aload_n 0, 1) := allD_get dtX1_rank 48 rfl
theorem dX1_rank_80 : decode cX1_rank 80 = .ok (.getfield 21, 3) := allD_get dtX1_rank 49 rfl
theorem dX1_rank_83 : decode cX1_rank 83 = .ok (.iload_n 3, 1) := allD_get dtX1_rank 50 rfl
theorem dX1_rank_84 : decode cX1_rank 84 = .ok (.iconst 0, 1) := allD_get dtX1_rank 51 rfl
theorem dX1_rank_85 : decode cX1_rank 85 = .ok (.iastore, 1) := allD_get dtX1_rank 52 rfl
theorem dX1_rank_86 : decode cX1_rank 86 = .ok (.iinc 2 1, 3) := allD_get dtX1_rank 53 rfl
theorem dX1_rank_89 : decode cX1_rank 89 = .ok (.goto (-87), 3) := allD_get dtX1_rank 54 rfl
theorem dX1_rank_92 : decode cX1_rank 92 = .ok (.iconst 0, 1) := allD_get dtX1_rank 55 rfl
theorem dX1_rank_93 : decode cX1_rank 93 = .ok (.istore_n 2, 1) := allD_get dtX1_rank 56 rfl
theorem dX1_rank_94 : decode cX1_rank 94 = .ok (.iload_n 2, 1) := allD_get dtX1_rank 57 rfl
theorem dX1_rank_95 : decode cX1_rank 95 = .ok (.iload_n 1, 1) := allD_get dtX1_rank 58 rfl
theorem dX1_rank_96 : decode cX1_rank 96 = .ok (.if_icmp .ge 38, 3) := allD_get dtX1_rank 59 rfl
theorem dX1_rank_99 : decode cX1_rank 99 = .ok (.aload_n 0, 1) := allD_get dtX1_rank 60 rfl
theorem dX1_rank_100 : decode cX1_rank 100 = .ok (.getfield 30, 3) := allD_get dtX1_rank 61 rfl
theorem dX1_rank_103 : decode cX1_rank 103 = .ok (.aload_n 0, 1) := allD_get dtX1_rank 62 rfl
theorem dX1_rank_104 : decode cX1_rank 104 = .ok (.getfield 9, 3) := allD_get dtX1_rank 63 rfl
theorem dX1_rank_107 : decode cX1_rank 107 = .ok (.iload_n 2, 1) := allD_get dtX1_rank 64 rfl
theorem dX1_rank_108 : decode cX1_rank 108 = .ok (.iaload, 1) := allD_get dtX1_rank 65 rfl
theorem dX1_rank_109 : decode cX1_rank 109 = .ok (.iaload, 1) := allD_get dtX1_rank 66 rfl
theorem dX1_rank_110 : decode cX1_rank 110 = .ok (.istore_n 3, 1) := allD_get dtX1_rank 67 rfl
theorem dX1_rank_111 : decode cX1_rank 111 = .ok (.aload_n 0, 1) := allD_get dtX1_rank 68 rfl
theorem dX1_rank_112 : decode cX1_rank 112 = .ok (.getfield 9, 3) := allD_get dtX1_rank 69 rfl
theorem dX1_rank_115 : decode cX1_rank 115 = .ok (.iload_n 2, 1) := allD_get dtX1_rank 70 rfl
theorem dX1_rank_116 : decode cX1_rank 116 = .ok (.iload_n 3, 1) := allD_get dtX1_rank 71 rfl
theorem dX1_rank_117 : decode cX1_rank 117 = .ok (.iastore, 1) := allD_get dtX1_rank 72 rfl
theorem dX1_rank_118 : decode cX1_rank 118 = .ok (.aload_n 0, 1) := allD_get dtX1_rank 73 rfl
theorem dX1_rank_119 : decode cX1_rank 119 = .ok (.getfield 21, 3) := allD_get dtX1_rank 74 rfl
theorem dX1_rank_122 : decode cX1_rank 122 = .ok (.iload_n 3, 1) := allD_get dtX1_rank 75 rfl
theorem dX1_rank_123 : decode cX1_rank 123 = .ok (.dup2, 1) := allD_get dtX1_rank 76 rfl
theorem dX1_rank_124 : decode cX1_rank 124 = .ok (.iaload, 1) := allD_get dtX1_rank 77 rfl
theorem dX1_rank_125 : decode cX1_rank 125 = .ok (.iconst 1, 1) := allD_get dtX1_rank 78 rfl
theorem dX1_rank_126 : decode cX1_rank 126 = .ok (.iadd, 1) := allD_get dtX1_rank 79 rfl
theorem dX1_rank_127 : decode cX1_rank 127 = .ok (.iastore, 1) := allD_get dtX1_rank 80 rfl
theorem dX1_rank_128 : decode cX1_rank 128 = .ok (.iinc 2 1, 3) := allD_get dtX1_rank 81 rfl
theorem dX1_rank_131 : decode cX1_rank 131 = .ok (.goto (-37), 3) := allD_get dtX1_rank 82 rfl
theorem dX1_rank_134 : decode cX1_rank 134 = .ok (.return_, 1) := allD_get dtX1_rank 83 rfl
def tbX1_isBefore : List (Nat × Instr × Nat) := [(0, .aload_n 0, 1), (1, .getfield 24, 3), (4, .iload_n 1, 1), (5, .iaload, 1), (6, .aload_n 0, 1), (7, .getfield 24, 3), (10, .iload_n 2, 1), (11, .iaload, 1), (12, .if_icmp .eq 24, 3), (15, .aload_n 0, 1), (16, .getfield 24, 3), (19, .iload_n 1, 1), (20, .iaload, 1), (21, .aload_n 0, 1), (22, .getfield 24, 3), (25, .iload_n 2, 1), (26, .iaload, 1), (27, .if_icmp .ge 7, 3), (30, .iconst 1, 1), (31, .goto 4, 3), (34, .iconst 0, 1), (35, .ireturn, 1), (36, .aload_n 0, 1), (37, .getfield 27, 3), (40, .iload_n 1, 1), (41, .iaload, 1), (42, .aload_n 0, 1), (43, .getfield 27, 3), (46, .iload_n 2, 1), (47, .iaload, 1), (48, .if_icmp .eq 24, 3), (51, .aload_n 0, 1), (52, .getfield 27, 3), (55, .iload_n 1, 1), (56, .iaload, 1), (57, .aload_n 0, 1), (58, .getfield 27, 3), (61, .iload_n 2, 1), (62, .iaload, 1), (63, .if_icmp .ge 7, 3), (66, .iconst 1, 1), (67, .goto 4, 3), (70, .iconst 0, 1), (71, .ireturn, 1), (72, .iload_n 1, 1), (73, .iload_n 2, 1), (74, .if_icmp .ge 7, 3), (77, .iconst 1, 1), (78, .goto 4, 3), (81, .iconst 0, 1), (82, .ireturn, 1)]
set_option maxRecDepth 100000 in
theorem dtX1_isBefore : allD cX1_isBefore tbX1_isBefore = true := by decide +kernel
theorem dX1_isBefore_0 : decode cX1_isBefore 0 = .ok (.aload_n 0, 1) := allD_get dtX1_isBefore 0 rfl
theorem dX1_isBefore_1 : decode cX1_isBefore 1 = .ok (.getfield 24, 3) := allD_get dtX1_isBefore 1 rfl
theorem dX1_isBefore_4 : decode cX1_isBefore 4 = .ok (.iload_n 1, 1) := allD_get dtX1_isBefore 2 rfl
theorem dX1_isBefore_5 : decode cX1_isBefore 5 = .ok (.iaload, 1) := allD_get dtX1_isBefore 3 rfl
theorem dX1_isBefore_6 : decode cX1_isBefore 6 = .ok (.aload_n 0, 1) := allD_get dtX1_isBefore 4 rfl
theorem dX1_isBefore_7 : decode cX1_isBefore 7 = .ok (.getfield 24, 3) := allD_get dtX1_isBefore 5 rfl
theorem dX1_isBefore_10 : decode cX1_isBefore 10 = .ok (.iload_n 2, 1) := allD_get dtX1_isBefore 6 rfl
theorem dX1_isBefore_11 : decode cX1_isBefore 11 = .ok (.iaload, 1) := allD_get dtX1_isBefore 7 rfl
theorem dX1_isBefore_12 : decode cX1_isBefore 12 = .ok (.if_icmp .eq 24, 3) := allD_get dtX1_isBefore 8 rfl
theorem dX1_isBefore_15 : decode cX1_isBefore 15 = .ok (.aload_n 0, 1) := allD_get dtX1_isBefore 9 rfl
theorem dX1_isBefore_16 : decode cX1_isBefore 16 = .ok (.getfield 24, 3) := allD_get dtX1_isBefore 10 rfl
theorem dX1_isBefore_19 : decode cX1_isBefore 19 = .ok (.iload_n 1, 1) := allD_get dtX1_isBefore 11 rfl
theorem dX1_isBefore_20 : decode cX1_isBefore 20 = .ok (.iaload, 1) := allD_get dtX1_isBefore 12 rfl
theorem dX1_isBefore_21 : decode cX1_isBefore 21 = .ok (.aload_n 0, 1) := allD_get dtX1_isBefore 13 rfl
theorem dX1_isBefore_22 : decode cX1_isBefore 22 = .ok (.getfield 24, 3) := allD_get dtX1_isBefore 14 rfl
theorem dX1_isBefore_25 : decode cX1_isBefore 25 = .ok (.iload_n 2, 1) := allD_get dtX1_isBefore 15 rfl
theorem dX1_isBefore_26 : decode cX1_isBefore 26 = .ok (.iaload, 1) := allD_get dtX1_isBefore 16 rfl
theorem dX1_isBefore_27 : decode cX1_isBefore 27 = .ok (.if_icmp .ge 7, 3) := allD_get dtX1_isBefore 17 rfl
theorem dX1_isBefore_30 : decode cX1_isBefore 30 = .ok (.iconst 1, 1) := allD_get dtX1_isBefore 18 rfl
theorem dX1_isBefore_31 : decode cX1_isBefore 31 = .ok (.goto 4, 3) := allD_get dtX1_isBefore 19 rfl
theorem dX1_isBefore_34 : decode cX1_isBefore 34 = .ok (.iconst 0, 1) := allD_get dtX1_isBefore 20 rfl
theorem dX1_isBefore_35 : decode cX1_isBefore 35 = .ok (.ireturn, 1) := allD_get dtX1_isBefore 21 rfl
theorem dX1_isBefore_36 : decode cX1_isBefore 36 = .ok (.aload_n 0, 1) := allD_get dtX1_isBefore 22 rfl
theorem dX1_isBefore_37 : decode cX1_isBefore 37 = .ok (.getfield 27, 3) := allD_get dtX1_isBefore 23 rfl
theorem dX1_isBefore_40 : decode cX1_isBefore 40 = .ok (.iload_n 1, 1) := allD_get dtX1_isBefore 24 rfl
theorem dX1_isBefore_41 : decode cX1_isBefore 41 = .ok (.iaload, 1) := allD_get dtX1_isBefore 25 rfl
theorem dX1_isBefore_42 : decode cX1_isBefore 42 = .ok (.aload_n 0, 1) := allD_get dtX1_isBefore 26 rfl
theorem dX1_isBefore_43 : decode cX1_isBefore 43 = .ok (.getfield 27, 3) := allD_get dtX1_isBefore 27 rfl
theorem dX1_isBefore_46 : decode cX1_isBefore 46 = .ok (.iload_n 2, 1) := allD_get dtX1_isBefore 28 rfl
theorem dX1_isBefore_47 : decode cX1_isBefore 47 = .ok (.iaload, 1) := allD_get dtX1_isBefore 29 rfl
theorem dX1_isBefore_48 : decode cX1_isBefore 48 = .ok (.if_icmp .eq 24, 3) := allD_get dtX1_isBefore 30 rfl
theorem dX1_isBefore_51 : decode cX1_isBefore 51 = .ok (.aload_n 0, 1) := allD_get dtX1_isBefore 31 rfl
theorem dX1_isBefore_52 : decode cX1_isBefore 52 = .ok (.getfield 27, 3) := allD_get dtX1_isBefore 32 rfl
theorem dX1_isBefore_55 : decode cX1_isBefore 55 = .ok (.iload_n 1, 1) := allD_get dtX1_isBefore 33 rfl
theorem dX1_isBefore_56 : decode cX1_isBefore 56 = .ok (.iaload, 1) := allD_get dtX1_isBefore 34 rfl
theorem dX1_isBefore_57 : decode cX1_isBefore 57 = .ok (.aload_n 0, 1) := allD_get dtX1_isBefore 35 rfl
theorem dX1_isBefore_58 : decode cX1_isBefore 58 = .ok (.getfield 27, 3) := allD_get dtX1_isBefore 36 rfl
theorem dX1_isBefore_61 : decode cX1_isBefore 61 = .ok (.iload_n 2, 1) := allD_get dtX1_isBefore 37 rfl
theorem dX1_isBefore_62 : decode cX1_isBefore 62 = .ok (.iaload, 1) := allD_get dtX1_isBefore 38 rfl
theorem dX1_isBefore_63 : decode cX1_isBefore 63 = .ok (.if_icmp .ge 7, 3) := allD_get dtX1_isBefore 39 rfl
theorem dX1_isBefore_66 : decode cX1_isBefore 66 = .ok (.iconst 1, 1) := allD_get dtX1_isBefore 40 rfl
theorem dX1_isBefore_67 : decode cX1_isBefore 67 = .ok (.goto 4, 3) := allD_get dtX1_isBefore 41 rfl
theorem dX1_isBefore_70 : decode cX1_isBefore 70 = .ok (.iconst 0, 1) := allD_get dtX1_isBefore 42 rfl
theorem dX1_isBefore_71 : decode cX1_isBefore 71 = .ok (.ireturn, 1) := allD_get dtX1_isBefore 43 rfl
theorem dX1_isBefore_72 : decode cX1_isBefore 72 = .ok (.iload_n 1, 1) := allD_get dtX1_isBefore 44 rfl
theorem dX1_isBefore_73 : decode cX1_isBefore 73 = .ok (.iload_n 2, 1) := allD_get dtX1_isBefore 45 rfl
theorem dX1_isBefore_74 : decode cX1_isBefore 74 = .ok (.if_icmp .ge 7, 3) := allD_get dtX1_isBefore 46 rfl
theorem dX1_isBefore_77 : decode cX1_isBefore 77 = .ok (.iconst 1, 1) := allD_get dtX1_isBefore 47 rfl
theorem dX1_isBefore_78 : decode cX1_isBefore 78 = .ok (.goto 4, 3) := allD_get dtX1_isBefore 48 rfl
theorem dX1_isBefore_81 : decode cX1_isBefore 81 = .ok (.iconst 0, 1) := allD_get dtX1_isBefore 49 rfl
theorem dX1_isBefore_82 : decode cX1_isBefore 82 = .ok (.ireturn, 1) := allD_get dtX1_isBefore 50 rfl
