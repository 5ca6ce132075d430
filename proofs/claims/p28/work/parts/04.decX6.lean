/-! the instructions of X6's methods, by program -/
def tbX6_init : List (Nat × Instr × Nat) := [(0, .aload_n 0, 1), (1, .invokespecial 3, 3), (4, .aload_n 0, 1), (5, .bipush 16, 2), (7, .newarray .int, 2), (9, .putfield 9, 3), (12, .aload_n 0, 1), (13, .bipush 16, 2), (15, .newarray .int, 2), (17, .putfield 15, 3), (20, .aload_n 0, 1), (21, .bipush 16, 2), (23, .newarray .int, 2), (25, .putfield 18, 3), (28, .aload_n 0, 1), (29, .bipush 16, 2), (31, .newarray .int, 2), (33, .putfield 21, 3), (36, .aload_n 0, 1), (37, .bipush 16, 2), (39, .newarray .int, 2), (41, .putfield 24, 3), (44, .aload_n 0, 1), (45, .bipush 16, 2), (47, .newarray .int, 2), (49, .putfield 27, 3), (52, .aload_n 0, 1), (53, .bipush 16, 2), (55, .newarray .int, 2), (57, .putfield 30, 3), (60, .aload_n 0, 1), (61, .bipush 16, 2), (63, .newarray .int, 2), (65, .putfield 33, 3), (68, .aload_n 0, 1), (69, .bipush 16, 2), (71, .newarray .int, 2), (73, .putfield 36, 3), (76, .aload_n 0, 1), (77, .bipush 16, 2), (79, .newarray .int, 2), (81, .putfield 39, 3), (84, .aload_n 0, 1), (85, .bipush 16, 2), (87, .newarray .int, 2), (89, .putfield 42, 3), (92, .return_, 1)]
set_option maxRecDepth 100000 in
theorem dtX6_init : allD cX6_init tbX6_init = true := by decide +kernel
theorem dX6_init_0 : decode cX6_init 0 = .ok (.aload_n 0, 1) := allD_get dtX6_init 0 rfl
theorem dX6_init_1 : decode cX6_init 1 = .ok (.invokespecial 3, 3) := allD_get dtX6_init 1 rfl
theorem dX6_init_4 : decode cX6_init 4 = .ok (.aload_n 0, 1) := allD_get dtX6_init 2 rfl
theorem dX6_init_5 : decode cX6_init 5 = .ok (.bipush 16, 2) := allD_get dtX6_init 3 rfl
theorem dX6_init_7 : decode cX6_init 7 = .ok (.newarray .int, 2) := allD_get dtX6_init 4 rfl
theorem dX6_init_9 : decode cX6_init 9 = .ok (.putfield 9, 3) := allD_get dtX6_init 5 rfl
theorem dX6_init_12 : decode cX6_init 12 = .ok (.aload_n 0, 1) := allD_get dtX6_init 6 rfl
theorem dX6_init_13 : decode cX6_init 13 = .ok (.bipush 16, 2) := allD_get dtX6_init 7 rfl
theorem dX6_init_15 : decode cX6_init 15 = .ok (.newarray .int, 2) := allD_get dtX6_init 8 rfl
theorem dX6_init_17 : decode cX6_init 17 = .ok (.putfield 15, 3) := allD_get dtX6_init 9 rfl
theorem dX6_init_20 : decode cX6_init 20 = .ok (.aload_n 0, 1) := allD_get dtX6_init 10 rfl
theorem dX6_init_21 : decode cX6_init 21 = .ok (.bipush 16, 2) := allD_get dtX6_init 11 rfl
theorem dX6_init_23 : decode cX6_init 23 = .ok (.newarray .int, 2) := allD_get dtX6_init 12 rfl
theorem dX6_init_25 : decode cX6_init 25 = .ok (.putfield 18, 3) := allD_get dtX6_init 13 rfl
theorem dX6_init_28 : decode cX6_init 28 = .ok (.aload_n 0, 1) := allD_get dtX6_init 14 rfl
theorem dX6_init_29 : decode cX6_init 29 = .ok (.bipush 16, 2) := allD_get dtX6_init 15 rfl
theorem dX6_init_31 : decode cX6_init 31 = .ok (.newarray .int, 2) := allD_get dtX6_init 16 rfl
theorem dX6_init_33 : decode cX6_init 33 = .ok (.putfield 21, 3) := allD_get dtX6_init 17 rfl
theorem dX6_init_36 : decode cX6_init 36 = .ok (.aload_n 0, 1) := allD_get dtX6_init 18 rfl
theorem dX6_init_37 : decode cX6_init 37 = .ok (.bipush 16, 2) := allD_get dtX6_init 19 rfl
theorem dX6_init_39 : decode cX6_init 39 = .ok (.newarray .int, 2) := allD_get dtX6_init 20 rfl
theorem dX6_init_41 : decode cX6_init 41 = .ok (.putfield 24, 3) := allD_get dtX6_init 21 rfl
theorem dX6_init_44 : decode cX6_init 44 = .ok (.aload_n 0, 1) := allD_get dtX6_init 22 rfl
theorem dX6_init_45 : decode cX6_init 45 = .ok (.bipush 16, 2) := allD_get dtX6_init 23 rfl
theorem dX6_init_47 : decode cX6_init 47 = .ok (.newarray .int, 2) := allD_get dtX6_init 24 rfl
theorem dX6_init_49 : decode cX6_init 49 = .ok (.putfield 27, 3) := allD_get dtX6_init 25 rfl
theorem dX6_init_52 : decode cX6_init 52 = .ok (.aload_n 0, 1) := allD_get dtX6_init 26 rfl
theorem dX6_init_53 : decode cX6_init 53 = .ok (.bipush 16, 2) := allD_get dtX6_init 27 rfl
theorem dX6_init_55 : decode cX6_init 55 = .ok (.newarray .int, 2) := allD_get dtX6_init 28 rfl
theorem dX6_init_57 : decode cX6_init 57 = .ok (.putfield 30, 3) := allD_get dtX6_init 29 rfl
theorem dX6_init_60 : decode cX6_init 60 = .ok (.aload_n 0, 1) := allD_get dtX6_init 30 rfl
theorem dX6_init_61 : decode cX6_init 61 = .ok (.bipush 16, 2) := allD_get dtX6_init 31 rfl
theorem dX6_init_63 : decode cX6_init 63 = .ok (.newarray .int, 2) := allD_get dtX6_init 32 rfl
theorem dX6_init_65 : decode cX6_init 65 = .ok (.putfield 33, 3) := allD_get dtX6_init 33 rfl
theorem dX6_init_68 : decode cX6_init 68 = .ok (.aload_n 0, 1) := allD_get dtX6_init 34 rfl
theorem dX6_init_69 : decode cX6_init 69 = .ok (.bipush 16, 2) := allD_get dtX6_init 35 rfl
theorem dX6_init_71 : decode cX6_init 71 = .ok (.newarray .int, 2) := allD_get dtX6_init 36 rfl
theorem dX6_init_73 : decode cX6_init 73 = .ok (.putfield 36, 3) := allD_get dtX6_init 37 rfl
theorem dX6_init_76 : decode cX6_init 76 = .ok (.aload_n 0, 1) := allD_get dtX6_init 38 rfl
theorem dX6_init_77 : decode cX6_init 77 = .ok (.bipush 16, 2) := allD_get dtX6_init 39 rfl
theorem dX6_init_79 : decode cX6_init 79 = .ok (.newarray .int, 2) := allD_get dtX6_init 40 rfl
theorem dX6_init_81 : decode cX6_init 81 = .ok (.putfield 39, 3) := allD_get dtX6_init 41 rfl
theorem dX6_init_84 : decode cX6_init 84 = .ok (.aload_n 0, 1) := allD_get dtX6_init 42 rfl
theorem dX6_init_85 : decode cX6_init 85 = .ok (.bipush 16, 2) := allD_get dtX6_init 43 rfl
theorem dX6_init_87 : decode cX6_init 87 = .ok (.newarray .int, 2) := allD_get dtX6_init 44 rfl
theorem dX6_init_89 : decode cX6_init 89 = .ok (.putfield 42, 3) := allD_get dtX6_init 45 rfl
theorem dX6_init_92 : decode cX6_init 92 = .ok (.return_, 1) := allD_get dtX6_init 46 rfl
def tbX6_group : List (Nat × Instr × Nat) := [(0, .aload_n 0, 1), (1, .aload_n 1, 1), (2, .aload_n 2, 1), (3, .invokevirtual 45, 3), (6, .aload_n 0, 1), (7, .iconst 0, 1), (8, .putfield 49, 3), (11, .bipush (-5), 2), (13, .istore 4, 2), (15, .iconst 0, 1), (16, .istore 5, 2), (18, .iload 5, 2), (20, .aload_n 1, 1), (21, .getfield 53, 3), (24, .if_icmp .ge 222, 3), (27, .aload_n 0, 1), (28, .getfield 9, 3), (31, .iload 5, 2), (33, .iaload, 1), (34, .istore 6, 2), (36, .aload_n 2, 1), (37, .getfield 58, 3), (40, .iload 6, 2), (42, .iaload, 1), (43, .istore 7, 2), (45, .aload_n 1, 1), (46, .iload 6, 2), (48, .invokevirtual 63, 3), (51, .istore 8, 2), (53, .iload 7, 2), (55, .iload 4, 2), (57, .if_icmp .eq 22, 3), (60, .aload_n 0, 1), (61, .getfield 36, 3), (64, .iload 7, 2), (66, .iconst 0, 1), (67, .iastore, 1), (68, .aload_n 0, 1), (69, .getfield 39, 3), (72, .iload 7, 2), (74, .aload_n 0, 1), (75, .getfield 49, 3), (78, .iastore, 1), (79, .iload 7, 2), (81, .iload 4, 2), (83, .if_icmp .ne 26, 3), (86, .aload_n 0, 1), (87, .getfield 42, 3), (90, .iload 6, 2), (92, .iaload, 1), (93, .aload_n 0, 1), (94, .getfield 30, 3), (97, .aload_n 0, 1), (98, .getfield 49, 3), (101, .iconst 1, 1), (102, .isub, 1), (103, .iaload, 1), (104, .iload_n 3, 1), (105, .iadd, 1), (106, .if_icmp .le 83, 3), (109, .aload_n 0, 1), (110, .getfield 21, 3), (113, .aload_n 0, 1), (114, .getfield 49, 3), (117, .iload 7, 2), (119, .iastore, 1), (120, .aload_n 0, 1), (121, .getfield 24, 3), (124, .aload_n 0, 1), (125, .getfield 49, 3), (128, .iconst 0, 1), (129, .iastore, 1), (130, .aload_n 0, 1), (131, .getfield 27, 3), (134, .aload_n 0, 1), (135, .getfield 49, 3), (138, .aload_n 0, 1), (139, .getfield 42, 3), (142, .iload 6, 2), (144, .iaload, 1), (145, .iastore, 1), (146, .aload_n 0, 1), (147, .getfield 30, 3), (150, .aload_n 0, 1), (151, .getfield 49, 3), (154, .iload 8, 2), (156, .iastore, 1), (157, .aload_n 0, 1), (158, .getfield 33, 3), (161, .aload_n 0, 1), (162, .getfield 49, 3), (165, .iload 5, 2), (167, .iastore, 1), (168, .aload_n 0, 1), (169, .getfield 36, 3), (172, .iload 7, 2), (174, .dup2, 1), (175, .iaload, 1), (176, .iconst 1, 1), (177, .iadd, 1), (178, .iastore, 1), (179, .aload_n 0, 1), (180, .dup, 1), (181, .getfield 49, 3), (184, .iconst 1, 1), (185, .iadd, 1), (186, .putfield 49, 3), (189, .aload_n 0, 1), (190, .getfield 49, 3), (193, .iconst 1, 1), (194, .isub, 1), (195, .istore 9, 2), (197, .aload_n 0, 1), (198, .getfield 18, 3), (201, .iload 6, 2), (203, .iload 9, 2), (205, .iastore, 1), (206, .aload_n 0, 1), (207, .getfield 24, 3), (210, .iload 9, 2), (212, .dup2, 1), (213, .iaload, 1), (214, .iconst 1, 1), (215, .iadd, 1), (216, .iastore, 1), (217, .aload_n 0, 1), (218, .getfield 30, 3), (221, .iload 9, 2), (223, .iload 8, 2), (225, .aload_n 0, 1), (226, .getfield 30, 3), (229, .iload 9, 2), (231, .iaload, 1), (232, .invokestatic 67, 3), (235, .iastore, 1), (236, .iload 7, 2), (238, .istore 4, 2), (240, .iinc 5 1, 3), (243, .goto (-225), 3), (246, .return_, 1)]
set_option maxRecDepth 100000 in
theorem dtX6_group : allD cX6_group tbX6_group = true := by decide +kernel
theorem dX6_group_0 : decode cX6_group 0 = .ok (.aload_n 0, 1) := allD_get dtX6_group 0 rfl
theorem dX6_group_1 : decode cX6_group 1 = .ok (.aload_n 1, 1) := allD_get dtX6_group 1 rfl
theorem dX6_group_2 : decode cX6_group 2 = .ok (.aload_n 2, 1) := allD_get dtX6_group 2 rfl
theorem dX6_group_3 : decode cX6_group 3 = .ok (.invokevirtual 45, 3) := allD_get dtX6_group 3 rfl
theorem dX6_group_6 : decode cX6_group 6 = .ok (.aload_n 0, 1) := allD_get dtX6_group 4 rfl
theorem dX6_group_7 : decode cX6_group 7 = .ok (.iconst 0, 1) := allD_get dtX6_group 5 rfl
theorem dX6_group_8 : decode cX6_group 8 = .ok (.putfield 49, 3) := allD_get dtX6_group 6 rfl
theorem dX6_group_11 : decode cX6_group 11 = .ok (.bipush (-5), 2) := allD_get dtX6_group 7 rfl
theorem dX6_group_13 : decode cX6_group 13 = .ok (.istore 4, 2) := allD_get dtX6_group 8 rfl
theorem dX6_group_15 : decode cX6_group 15 = .ok (.iconst 0, 1) := allD_get dtX6_group 9 rfl
theorem dX6_group_16 : decode cX6_group 16 = .ok (.istore 5, 2) := allD_get dtX6_group 10 rfl
theorem dX6_group_18 : decode cX6_group 18 = .ok (.iload 5, 2) := allD_get dtX6_group 11 rfl
theorem dX6_group_20 : decode cX6_group 20 = .ok (.aload_n 1, 1) := allD_get dtX6_group 12 rfl
theorem dX6_group_21 : decode cX6_group 21 = .ok (.getfield 53, 3) := allD_get dtX6_group 13 rfl
theorem dX6_group_24 : decode cX6_group 24 = .ok (.if_icmp .ge 222, 3) := allD_get dtX6_group 14 rfl
theorem dX6_group_27 : decode cX6_group 27 = .ok (.aload_n 0, 1) := allD_get dtX6_group 15 rfl
theorem dX6_group_28 : decode cX6_group 28 = .ok (.getfield 9, 3) := allD_get dtX6_group 16 rfl
theorem dX6_group_31 : decode cX6_group 31 = .ok (.iload 5, 2) := allD_get dtX6_group 17 rfl
theorem dX6_group_33 : decode cX6_group 33 = .ok (.iaload, 1) := allD_get dtX6_group 18 rfl
theorem dX6_group_34 : decode cX6_group 34 = .ok (.istore 6, 2) := allD_get dtX6_group 19 rfl
theorem dX6_group_36 : decode cX6_group 36 = .ok (.aload_n 2, 1) := allD_get dtX6_group 20 rfl
theorem dX6_group_37 : decode cX6_group 37 = .ok (.getfield 58, 3) := allD_get dtX6_group 21 rfl
theorem dX6_group_40 : decode cX6_group 40 = .ok (.iload 6, 2) := allD_get dtX6_group 22 rfl
theorem dX6_group_42 : decode cX6_group 42 = .ok (.iaload, 1) := allD_get dtX6_group 23 rfl
theorem dX6_group_43 : decode cX6_group 43 = .ok (.istore 7, 2) := allD_get dtX6_group 24 rfl
theorem dX6_group_45 : decode cX6_group 45 = .ok (.aload_n 1, 1) := allD_get dtX6_group 25 rfl
theorem dX6_group_46 : decode cX6_group 46 = .ok (.iload 6, 2) := allD_get dtX6_group 26 rfl
theorem dX6_group_48 : decode cX6_group 48 = .ok (.invokevirtual 63, 3) := allD_get dtX6_group 27 rfl
theorem dX6_group_51 : decode cX6_group 51 = .ok (.istore 8, 2) := allD_get dtX6_group 28 rfl
theorem dX6_group_53 : decode cX6_group 53 = .ok (.iload 7, 2) := allD_get dtX6_group 29 rfl
theorem dX6_group_55 : decode cX6_group 55 = .ok (.iload 4, 2) := allD_get dtX6_group 30 rfl
theorem dX6_group_57 : decode cX6_group 57 = .ok (.if_icmp .eq 22, 3) := allD_get dtX6_group 31 rfl
theorem dX6_group_60 : decode cX6_group 60 = .ok (.aload_n 0, 1) := allD_get dtX6_group 32 rfl
theorem dX6_group_61 : decode cX6_group 61 = .ok (.getfield 36, 3) := allD_get dtX6_group 33 rfl
theorem dX6_group_64 : decode cX6_group 64 = .ok (.iload 7, 2) := allD_get dtX6_group 34 rfl
theorem dX6_group_66 : decode cX6_group 66 = .ok (.iconst 0, 1) := allD_get dtX6_group 35 rfl
theorem dX6_group_67 : decode cX6_group 67 = .ok (.iastore, 1) := allD_get dtX6_group 36 rfl
theorem dX6_group_68 : decode cX6_group 68 = .ok (.aload_n 0, 1) := allD_get dtX6_group 37 rfl
theorem dX6_group_69 : decode cX6_group 69 = .ok (.getfield 39, 3) := allD_get dtX6_group 38 rfl
theorem dX6_group_72 : decode cX6_group 72 = .ok (.iload 7, 2) := allD_get dtX6_group 39 rfl
theorem dX6_group_74 : decode cX6_group 74 = .ok (.aload_n 0, 1) := allD_get dtX6_group 40 rfl
theorem dX6_group_75 : decode cX6_group 75 = .ok (.getfield 49, 3) := allD_get dtX6_group 41 rfl
theorem dX6_group_78 : decode cX6_group 78 = .ok (.iastore, 1) := allD_get dtX6_group 42 rfl
theorem dX6_group_79 : decode cX6_group 79 = .ok (.iload 7, 2) := allD_get dtX6_group 43 rfl
theorem dX6_group_81 : decode cX6_group 81 = .ok (.iload 4, 2) := allD_get dtX6_group 44 rfl
theorem dX6_group_83 : decode cX6_group 83 = .ok (.if_icmp .ne 26, 3) := allD_get dtX6_group 45 rfl
theorem dX6_group_86 : decode cX6_group 86 = .ok (.aload_n 0, 1) := allD_get dtX6_group 46 rfl
theorem dX6_group_87 : decode cX6_group 87 = .ok (.getfield 42, 3) := allD_get dtX6_group 47 rfl
theorem dX6_group_90 : decode cX6_group 90 = .ok (.iload 6, 2) := allD_get dtX6_group 48 rfl
theorem dX6_group_92 : decode cX6_group 92 = .ok (.iaload, 1) := allD_get dtX6_group 49 rfl
theorem dX6_group_93 : decode cX6_group 93 = .ok (.aload_n 0, 1) := allD_get dtX6_group 50 rfl
theorem dX6_group_94 : decode cX6_group 94 = .ok (.getfield 30, 3) := allD_get dtX6_group 51 rfl
theorem dX6_group_97 : decode cX6_group 97 = .ok (.aload_n 0, 1) := allD_get dtX6_group 52 rfl
theorem dX6_group_98 : decode cX6_group 98 = .ok (.getfield 49, 3) := allD_get dtX6_group 53 rfl
theorem dX6_group_101 : decode cX6_group 101 = .ok (.iconst 1, 1) := allD_get dtX6_group 54 rfl
theorem dX6_group_102 : decode cX6_group 102 = .ok (.isub, 1) := allD_get dtX6_group 55 rfl
theorem dX6_group_103 : decode cX6_group 103 = .ok (.iaload, 1) := allD_get dtX6_group 56 rfl
theorem dX6_group_104 : decode cX6_group 104 = .ok (.iload_n 3, 1) := allD_get dtX6_group 57 rfl
theorem dX6_group_105 : decode cX6_group 105 = .ok (.iadd, 1) := allD_get dtX6_group 58 rfl
theorem dX6_group_106 : decode cX6_group 106 = .ok (.if_icmp .le 83, 3) := allD_get dtX6_group 59 rfl
theorem dX6_group_109 : decode cX6_group 109 = .ok (.aload_n 0, 1) := allD_get dtX6_group 60 rfl
theorem dX6_group_110 : decode cX6_group 110 = .ok (.getfield 21, 3) := allD_get dtX6_group 61 rfl
theorem dX6_group_113 : decode cX6_group 113 = .ok (.aload_n 0, 1) := allD_get dtX6_group 62 rfl
theorem dX6_group_114 : decode cX6_group 114 = .ok (.getfield 49, 3) := allD_get dtX6_group 63 rfl
theorem dX6_group_117 : decode cX6_group 117 = .ok (.iload 7, 2) := allD_get dtX6_group 64 rfl
theorem dX6_group_119 : decode cX6_group 119 = .ok (.iastore, 1) := allD_get dtX6_group 65 rfl
theorem dX6_group_120 : decode cX6_group 120 = .ok (.aload_n 0, 1) := allD_get dtX6_group 66 rfl
theorem dX6_group_121 : decode cX6_group 121 = .ok (.getfield 24, 3) := allD_get dtX6_group 67 rfl
theorem dX6_group_124 : decode cX6_group 124 = .ok (.aload_n 0, 1) := allD_get dtX6_group 68 rfl
theorem dX6_group_125 : decode cX6_group 125 = .ok (.getfield 49, 3) := allD_get dtX6_group 69 rfl
theorem dX6_group_128 : decode cX6_group 128 = .ok (.iconst 0, 1) := allD_get dtX6_group 70 rfl
theorem dX6_group_129 : decode cX6_group 129 = .ok (.iastore, 1) := allD_get dtX6_group 71 rfl
theorem dX6_group_130 : decode cX6_group 130 = .ok (.aload_n 0, 1) := allD_get dtX6_group 72 rfl
theorem dX6_group_131 : decode cX6_group 131 = .ok (.getfield 27, 3) := allD_get dtX6_group 73 rfl
theorem dX6_group_134 : decode cX6_group 134 = .ok (.aload_n 0, 1) := allD_get dtX6_group 74 rfl
theorem dX6_group_135 : decode cX6_group 135 = .ok (.getfield 49, 3) := allD_get dtX6_group 75 rfl
theorem dX6_group_138 : decode cX6_group 138 = .ok (.aload_n 0, 1) := allD_get dtX6_group 76 rfl
theorem dX6_group_139 : decode cX6_group 139 = .ok (.getfield 42, 3) := allD_get dtX6_group 77 rfl
theorem dX6_group_142 : decode cX6_group 142 = .ok (.iload 6, 2) := allD_get dtX6_group 78 rfl
theorem dX6_group_144 : decode cX6_group 144 = .ok (.iaload, 1) := allD_get dtX6_group 79 rfl
theorem dX6_group_145 : decode cX6_group 145 = .ok (.iastore, 1) := allD_get dtX6_group 80 rfl
theorem dX6_group_146 : decode cX6_group 146 = .ok (.aload_n 0, 1) := allD_get dtX6_group 81 rfl
theorem dX6_group_147 : decode cX6_group 147 = .ok (.getfield 30, 3) := allD_get dtX6_group 82 rfl
theorem dX6_group_150 : decode cX6_group 150 = .ok (.aload_n 0, 1) := allD_get dtX6_group 83 rfl
theorem dX6_group_151 : decode cX6_group 151 = .ok (.getfield 49, 3) := allD_get dtX6_group 84 rfl
theorem dX6_group_154 : decode cX6_group 154 = .ok (.iload 8, 2) := allD_get dtX6_group 85 rfl
theorem dX6_group_156 : decode cX6_group 156 = .ok (.iastore, 1) := allD_get dtX6_group 86 rfl
theorem dX6_group_157 : decode cX6_group 157 = .ok (.aload_n 0, 1) := allD_get dtX6_group 87 rfl
theorem dX6_group_158 : decode cX6_group 158 = .ok (.getfield 33, 3) := allD_get dtX6_group 88 rfl
theorem dX6_group_161 : decode cX6_group 161 = .ok (.aload_n 0, 1) := allD_get dtX6_group 89 rfl
theorem dX6_group_162 : decode cX6_group 162 = .ok (.getfield 49, 3) := allD_get dtX6_group 90 rfl
theorem dX6_group_165 : decode cX6_group 165 = .ok (.iload 5, 2) := allD_get dtX6_group 91 rfl
theorem dX6_group_167 : decode cX6_group 167 = .ok (.iastore, 1) := allD_get dtX6_group 92 rfl
theorem dX6_group_168 : decode cX6_group 168 = .ok (.aload_n 0, 1) := allD_get dtX6_group 93 rfl
theorem dX6_group_169 : decode cX6_group 169 = .ok (.getfield 36, 3) := allD_get dtX6_group 94 rfl
theorem dX6_group_172 : decode cX6_group 172 = .ok (.iload 7, 2) := allD_get dtX6_group 95 rfl
theorem dX6_group_174 : decode cX6_group 174 = .ok (.dup2, 1) := allD_get dtX6_group 96 rfl
theorem dX6_group_175 : decode cX6_group 175 = .ok (.iaload, 1) := allD_get dtX6_group 97 rfl
theorem dX6_group_176 : decode cX6_group 176 = .ok (.iconst 1, 1) := allD_get dtX6_group 98 rfl
theorem dX6_group_177 : decode cX6_group 177 = .ok (.iadd, 1) := allD_get dtX6_group 99 rfl
theorem dX6_group_178 : decode cX6_group 178 = .ok (.iastore, 1) := allD_get dtX6_group 100 rfl
theorem dX6_group_179 : decode cX6_group 179 = .ok (.aload_n 0, 1) := allD_get dtX6_group 101 rfl
theorem dX6_group_180 : decode cX6_group 180 = .ok (.dup, 1) := allD_get dtX6_group 102 rfl
theorem dX6_group_181 : decode cX6_group 181 = .ok (.getfield 49, 3) := allD_get dtX6_group 103 rfl
theorem dX6_group_184 : decode cX6_group 184 = .ok (.iconst 1, 1) := allD_get dtX6_group 104 rfl
theorem dX6_group_185 : decode cX6_group 185 = .ok (.iadd, 1) := allD_get dtX6_group 105 rfl
theorem dX6_group_186 : decode cX6_group 186 = .ok (.putfield 49, 3) := allD_get dtX6_group 106 rfl
theorem dX6_group_189 : decode cX6_group 189 = .ok (.aload_n 0, 1) := allD_get dtX6_group 107 rfl
theorem dX6_group_190 : decode cX6_group 190 = .ok (.getfield 49, 3) := allD_get dtX6_group 108 rfl
theorem dX6_group_193 : decode cX6_group 193 = .ok (.iconst 1, 1) := allD_get dtX6_group 109 rfl
theorem dX6_group_194 : decode cX6_group 194 = .ok (.isub, 1) := allD_get dtX6_group 110 rfl
theorem dX6_group_195 : decode cX6_group 195 = .ok (.istore 9, 2) := allD_get dtX6_group 111 rfl
theorem dX6_group_197 : decode cX6_group 197 = .ok (.aload_n 0, 1) := allD_get dtX6_group 112 rfl
theorem dX6_group_198 : decode cX6_group 198 = .ok (.getfield 18, 3) := allD_get dtX6_group 113 rfl
theorem dX6_group_201 : decode cX6_group 201 = .ok (.iload 6, 2) := allD_get dtX6_group 114 rfl
theorem dX6_group_203 : decode cX6_group 203 = .ok (.iload 9, 2) := allD_get dtX6_group 115 rfl
theorem dX6_group_205 : decode cX6_group 205 = .ok (.iastore, 1) := allD_get dtX6_group 116 rfl
theorem dX6_group_206 : decode cX6_group 206 = .ok (.aload_n 0, 1) := allD_get dtX6_group 117 rfl
theorem dX6_group_207 : decode cX6_group 207 = .ok (.getfield 24, 3) := allD_get dtX6_group 118 rfl
theorem dX6_group_210 : decode cX6_group 210 = .ok (.iload 9, 2) := allD_get dtX6_group 119 rfl
theorem dX6_group_212 : decode cX6_group 212 = .ok (.dup2, 1) := allD_get dtX6_group 120 rfl
theorem dX6_group_213 : decode cX6_group 213 = .ok (.iaload, 1) := allD_get dtX6_group 121 rfl
theorem dX6_group_214 : decode cX6_group 214 = .ok (.iconst 1, 1) := allD_get dtX6_group 122 rfl
theorem dX6_group_215 : decode cX6_group 215 = .ok (.iadd, 1) := allD_get dtX6_group 123 rfl
theorem dX6_group_216 : decode cX6_group 216 = .ok (.iastore, 1) := allD_get dtX6_group 124 rfl
theorem dX6_group_217 : decode cX6_group 217 = .ok (.aload_n 0, 1) := allD_get dtX6_group 125 rfl
theorem dX6_group_218 : decode cX6_group 218 = .ok (.getfield 30, 3) := allD_get dtX6_group 126 rfl
theorem dX6_group_221 : decode cX6_group 221 = .ok (.iload 9, 2) := allD_get dtX6_group 127 rfl
theorem dX6_group_223 : decode cX6_group 223 = .ok (.iload 8, 2) := allD_get dtX6_group 128 rfl
theorem dX6_group_225 : decode cX6_group 225 = .ok (.aload_n 0, 1) := allD_get dtX6_group 129 rfl
theorem dX6_group_226 : decode cX6_group 226 = .ok (.getfield 30, 3) := allD_get dtX6_group 130 rfl
theorem dX6_group_229 : decode cX6_group 229 = .ok (.iload 9, 2) := allD_get dtX6_group 131 rfl
theorem dX6_group_231 : decode cX6_group 231 = .ok (.iaload, 1) := allD_get dtX6_group 132 rfl
theorem dX6_group_232 : decode cX6_group 232 = .ok (.invokestatic 67, 3) := allD_get dtX6_group 133 rfl
theorem dX6_group_235 : decode cX6_group 235 = .ok (.iastore, 1) := allD_get dtX6_group 134 rfl
theorem dX6_group_236 : decode cX6_group 236 = .ok (.iload 7, 2) := allD_get dtX6_group 135 rfl
theorem dX6_group_238 : decode cX6_group 238 = .ok (.istore 4, 2) := allD_get dtX6_group 136 rfl
theorem dX6_group_240 : decode cX6_group 240 = .ok (.iinc 5 1, 3) := allD_get dtX6_group 137 rfl
theorem dX6_group_243 : decode cX6_group 243 = .ok (.goto (-225), 3) := allD_get dtX6_group 138 rfl
theorem dX6_group_246 : decode cX6_group 246 = .ok (.return_, 1) := allD_get dtX6_group 139 rfl
def tbX6_setOrder : List (Nat × Instr × Nat) := [(0, .iconst 0, 1), (1, .istore_n 3, 1), (2, .iload_n 3, 1), (3, .aload_n 1, 1), (4, .getfield 53, 3), (7, .if_icmp .ge 20, 3), (10, .aload_n 0, 1), (11, .getfield 42, 3), (14, .iload_n 3, 1), (15, .aload_n 1, 1), (16, .iload_n 3, 1), (17, .invokevirtual 73, 3), (20, .iastore, 1), (21, .iinc 3 1, 3), (24, .goto (-22), 3), (27, .iconst 0, 1), (28, .istore_n 3, 1), (29, .iload_n 3, 1), (30, .aload_n 1, 1), (31, .getfield 53, 3), (34, .if_icmp .ge 67, 3), (37, .iconst 0, 1), (38, .istore 4, 2), (40, .iconst 0, 1), (41, .istore 5, 2), (43, .iload 5, 2), (45, .aload_n 1, 1), (46, .getfield 53, 3), (49, .if_icmp .ge 30, 3), (52, .iload 4, 2), (54, .aload_n 0, 1), (55, .iload 5, 2), (57, .iload_n 3, 1), (58, .aload_n 2, 1), (59, .invokevirtual 76, 3), (62, .ifCond .eq 7, 3), (65, .iconst 1, 1), (66, .goto 4, 3), (69, .iconst 0, 1), (70, .iadd, 1), (71, .istore 4, 2), (73, .iinc 5 1, 3), (76, .goto (-33), 3), (79, .aload_n 0, 1), (80, .getfield 15, 3), (83, .iload_n 3, 1), (84, .iload 4, 2), (86, .iastore, 1), (87, .aload_n 0, 1), (88, .getfield 9, 3), (91, .iload 4, 2), (93, .iload_n 3, 1), (94, .iastore, 1), (95, .iinc 3 1, 3), (98, .goto (-69), 3), (101, .return_, 1)]
set_option maxRecDepth 100000 in
theorem dtX6_setOrder : allD cX6_setOrder tbX6_setOrder = true := by decide +kernel
theorem dX6_setOrder_0 : decode cX6_setOrder 0 = .ok (.iconst 0, 1) := allD_get dtX6_setOrder 0 rfl
theorem dX6_setOrder_1 : decode cX6_setOrder 1 = .ok (.istore_n 3, 1) := allD_get dtX6_setOrder 1 rfl
theorem dX6_setOrder_2 : decode cX6_setOrder 2 = .ok (.iload_n 3, 1) := allD_get dtX6_setOrder 2 rfl
theorem dX6_setOrder_3 : decode cX6_setOrder 3 = .ok (.aload_n 1, 1) := allD_get dtX6_setOrder 3 rfl
theorem dX6_setOrder_4 : decode cX6_setOrder 4 = .ok (.getfield 53, 3) := allD_get dtX6_setOrder 4 rfl
theorem dX6_setOrder_7 : decode cX6_setOrder 7 = .ok (.if_icmp .ge 20, 3) := allD_get dtX6_setOrder 5 rfl
theorem dX6_setOrder_10 : decode cX6_setOrder 10 = .ok (.aload_n 0, 1) := allD_get dtX6_setOrder 6 rfl
theorem dX6_setOrder_11 : decode cX6_setOrder 11 = .ok (.getfield 42, 3) := allD_get dtX6_setOrder 7 rfl
theorem dX6_setOrder_14 : decode cX6_setOrder 14 = .ok (.iload_n 3, 1) := allD_get dtX6_setOrder 8 rfl
theorem dX6_setOrder_15 : decode cX6_setOrder 15 = .ok (.aload_n 1, 1) := allD_get dtX6_setOrder 9 rfl
theorem dX6_setOrder_16 : decode cX6_setOrder 16 = .ok (.iload_n 3, 1) := allD_get dtX6_setOrder 10 rfl
theorem dX6_setOrder_17 : decode cX6_setOrder 17 = .ok (.invokevirtual 73, 3) := allD_get dtX6_setOrder 11 rfl
theorem dX6_setOrder_20 : decode cX6_setOrder 20 = .ok (.iastore, 1) := allD_get dtX6_setOrder 12 rfl
theorem dX6_setOrder_21 : decode cX6_setOrder 21 = .ok (.iinc 3 1, 3) := allD_get dtX6_setOrder 13 rfl
theorem dX6_setOrder_24 : decode cX6_setOrder 24 = .ok (.goto (-22), 3) := allD_get dtX6_setOrder 14 rfl
theorem dX6_setOrder_27 : decode cX6_setOrder 27 = .ok (.iconst 0, 1) := allD_get dtX6_setOrder 15 rfl
theorem dX6_setOrder_28 : decode cX6_setOrder 28 = .ok (.istore_n 3, 1) := allD_get dtX6_setOrder 16 rfl
theorem dX6_setOrder_29 : decode cX6_setOrder 29 = .ok (.iload_n 3, 1) := allD_get dtX6_setOrder 17 rfl
theorem dX6_setOrder_30 : decode cX6_setOrder 30 = .ok (.aload_n 1, 1) := allD_get dtX6_setOrder 18 rfl
theorem dX6_setOrder_31 : decode cX6_setOrder 31 = .ok (.getfield 53, 3) := allD_get dtX6_setOrder 19 rfl
theorem dX6_setOrder_34 : decode cX6_setOrder 34 = .ok (.if_icmp .ge 67, 3) := allD_get dtX6_setOrder 20 rfl
theorem dX6_setOrder_37 : decode cX6_setOrder 37 = .ok (.iconst 0, 1) := allD_get dtX6_setOrder 21 rfl
theorem dX6_setOrder_38 : decode cX6_setOrder 38 = .ok (.istore 4, 2) := allD_get dtX6_setOrder 22 rfl
theorem dX6_setOrder_40 : decode cX6_setOrder 40 = .ok (.iconst 0, 1) := allD_get dtX6_setOrder 23 rfl
theorem dX6_setOrder_41 : decode cX6_setOrder 41 = .ok (.istore 5, 2) := allD_get dtX6_setOrder 24 rfl
theorem dX6_setOrder_43 : decode cX6_setOrder 43 = .ok (.iload 5, 2) := allD_get dtX6_setOrder 25 rfl
theorem dX6_setOrder_45 : decode cX6_setOrder 45 = .ok (.aload_n 1, 1) := allD_get dtX6_setOrder 26 rfl
theorem dX6_setOrder_46 : decode cX6_setOrder 46 = .ok (.getfield 53, 3) := allD_get dtX6_setOrder 27 rfl
theorem dX6_setOrder_49 : decode cX6_setOrder 49 = .ok (.if_icmp .ge 30, 3) := allD_get dtX6_setOrder 28 rfl
theorem dX6_setOrder_52 : decode cX6_setOrder 52 = .ok (.iload 4, 2) := allD_get dtX6_setOrder 29 rfl
theorem dX6_setOrder_54 : decode cX6_setOrder 54 = .ok (.aload_n 0, 1) := allD_get dtX6_setOrder 30 rfl
theorem dX6_setOrder_55 : decode cX6_setOrder 55 = .ok (.iload 5, 2) := allD_get dtX6_setOrder 31 rfl
theorem dX6_setOrder_57 : decode cX6_setOrder 57 = .ok (.iload_n 3, 1) := allD_get dtX6_setOrder 32 rfl
theorem dX6_setOrder_58 : decode cX6_setOrder 58 = .ok (.aload_n 2, 1) := allD_get dtX6_setOrder 33 rfl
theorem dX6_setOrder_59 : decode cX6_setOrder 59 = .ok (.invokevirtual 76, 3) := allD_get dtX6_setOrder 34 rfl
theorem dX6_setOrder_62 : decode cX6_setOrder 62 = .ok (.ifCond .eq 7, 3) := allD_get dtX6_setOrder 35 rfl
theorem dX6_setOrder_65 : decode cX6_setOrder 65 = .ok (.iconst 1, 1) := allD_get dtX6_setOrder 36 rfl
theorem dX6_setOrder_66 : decode cX6_setOrder 66 = .ok (.goto 4, 3) := allD_get dtX6_setOrder 37 rfl
theorem dX6_setOrder_69 : decode cX6_setOrder 69 = .ok (.iconst 0, 1) := allD_get dtX6_setOrder 38 rfl
theorem dX6_setOrder_70 : decode cX6_setOrder 70 = .ok (.iadd, 1) := allD_get dtX6_setOrder 39 rfl
theorem dX6_setOrder_71 : decode cX6_setOrder 71 = .ok (.istore 4, 2) := allD_get dtX6_setOrder 40 rfl
theorem dX6_setOrder_73 : decode cX6_setOrder 73 = .ok (.iinc 5 1, 3) := allD_get dtX6_setOrder 41 rfl
theorem dX6_setOrder_76 : decode cX6_setOrder 76 = .ok (.goto (-33), 3) := allD_get dtX6_setOrder 42 rfl
theorem dX6_setOrder_79 : decode cX6_setOrder 79 = .ok (.aload_n 0, 1) := allD_get dtX6_setOrder 43 rfl
theorem dX6_setOrder_80 : decode cX6_setOrder 80 = .ok (.getfield 15, 3) := allD_get dtX6_setOrder 44 rfl
theorem dX6_setOrder_83 : decode cX6_setOrder 83 = .ok (.iload_n 3, 1) := allD_get dtX6_setOrder 45 rfl
theorem dX6_setOrder_84 : decode cX6_setOrder 84 = .ok (.iload 4, 2) := allD_get dtX6_setOrder 46 rfl
theorem dX6_setOrder_86 : decode cX6_setOrder 86 = .ok (.iastore, 1) := allD_get dtX6_setOrder 47 rfl
theorem dX6_setOrder_87 : decode cX6_setOrder 87 = .ok (.aload_n 0, 1) := allD_get dtX6_setOrder 48 rfl
theorem dX6_setOrder_88 : decode cX6_setOrder 88 = .ok (.getfield 9, 3) := allD_get dtX6_setOrder 49 rfl
theorem dX6_setOrder_91 : decode cX6_setOrder 91 = .ok (.iload 4, 2) := allD_get dtX6_setOrder 50 rfl
theorem dX6_setOrder_93 : decode cX6_setOrder 93 = .ok (.iload_n 3, 1) := allD_get dtX6_setOrder 51 rfl
theorem dX6_setOrder_94 : decode cX6_setOrder 94 = .ok (.iastore, 1) := allD_get dtX6_setOrder 52 rfl
theorem dX6_setOrder_95 : decode cX6_setOrder 95 = .ok (.iinc 3 1, 3) := allD_get dtX6_setOrder 53 rfl
theorem dX6_setOrder_98 : decode cX6_setOrder 98 = .ok (.goto (-69), 3) := allD_get dtX6_setOrder 54 rfl
theorem dX6_setOrder_101 : decode cX6_setOrder 101 = .ok (.return_, 1) := allD_get dtX6_setOrder 55 rfl
def tbX6_isBefore : List (Nat × Instr × Nat) := [(0, .aload_n 3, 1), (1, .getfield 58, 3), (4, .iload_n 1, 1), (5, .iaload, 1), (6, .aload_n 3, 1), (7, .getfield 58, 3), (10, .iload_n 2, 1), (11, .iaload, 1), (12, .if_icmp .eq 24, 3), (15, .aload_n 3, 1), (16, .getfield 58, 3), (19, .iload_n 1, 1), (20, .iaload, 1), (21, .aload_n 3, 1), (22, .getfield 58, 3), (25, .iload_n 2, 1), (26, .iaload, 1), (27, .if_icmp .ge 7, 3), (30, .iconst 1, 1), (31, .goto 4, 3), (34, .iconst 0, 1), (35, .ireturn, 1), (36, .aload_n 0, 1), (37, .getfield 42, 3), (40, .iload_n 1, 1), (41, .iaload, 1), (42, .aload_n 0, 1), (43, .getfield 42, 3), (46, .iload_n 2, 1), (47, .iaload, 1), (48, .if_icmp .eq 24, 3), (51, .aload_n 0, 1), (52, .getfield 42, 3), (55, .iload_n 1, 1), (56, .iaload, 1), (57, .aload_n 0, 1), (58, .getfield 42, 3), (61, .iload_n 2, 1), (62, .iaload, 1), (63, .if_icmp .ge 7, 3), (66, .iconst 1, 1), (67, .goto 4, 3), (70, .iconst 0, 1), (71, .ireturn, 1), (72, .iload_n 1, 1), (73, .iload_n 2, 1), (74, .if_icmp .ge 7, 3), (77, .iconst 1, 1), (78, .goto 4, 3), (81, .iconst 0, 1), (82, .ireturn, 1)]
set_option maxRecDepth 100000 in
theorem dtX6_isBefore : allD cX6_isBefore tbX6_isBefore = true := by decide +kernel
theorem dX6_isBefore_0 : decode cX6_isBefore 0 = .ok (.aload_n 3, 1) := allD_get dtX6_isBefore 0 rfl
theorem dX6_isBefore_1 : decode cX6_isBefore 1 = .ok (.getfield 58, 3) := allD_get dtX6_isBefore 1 rfl
theorem dX6_isBefore_4 : decode cX6_isBefore 4 = .ok (.iload_n 1, 1) := allD_get dtX6_isBefore 2 rfl
theorem dX6_isBefore_5 : decode cX6_isBefore 5 = .ok (.iaload, 1) := allD_get dtX6_isBefore 3 rfl
theorem dX6_isBefore_6 : decode cX6_isBefore 6 = .ok (.aload_n 3, 1) := allD_get dtX6_isBefore 4 rfl
theorem dX6_isBefore_7 : decode cX6_isBefore 7 = .ok (.getfield 58, 3) := allD_get dtX6_isBefore 5 rfl
theorem dX6_isBefore_10 : decode cX6_isBefore 10 = .ok (.iload_n 2, 1) := allD_get dtX6_isBefore 6 rfl
theorem dX6_isBefore_11 : decode cX6_isBefore 11 = .ok (.iaload, 1) := allD_get dtX6_isBefore 7 rfl
theorem dX6_isBefore_12 : decode cX6_isBefore 12 = .ok (.if_icmp .eq 24, 3) := allD_get dtX6_isBefore 8 rfl
theorem dX6_isBefore_15 : decode cX6_isBefore 15 = .ok (.aload_n 3, 1) := allD_get dtX6_isBefore 9 rfl
theorem dX6_isBefore_16 : decode cX6_isBefore 16 = .ok (.getfield 58, 3) := allD_get dtX6_isBefore 10 rfl
theorem dX6_isBefore_19 : decode cX6_isBefore 19 = .ok (.iload_n 1, 1) := allD_get dtX6_isBefore 11 rfl
theorem dX6_isBefore_20 : decode cX6_isBefore 20 = .ok (.iaload, 1) := allD_get dtX6_isBefore 12 rfl
theorem dX6_isBefore_21 : decode cX6_isBefore 21 = .ok (.aload_n 3, 1) := allD_get dtX6_isBefore 13 rfl
theorem dX6_isBefore_22 : decode cX6_isBefore 22 = .ok (.getfield 58, 3) := allD_get dtX6_isBefore 14 rfl
theorem dX6_isBefore_25 : decode cX6_isBefore 25 = .ok (.iload_n 2, 1) := allD_get dtX6_isBefore 15 rfl
theorem dX6_isBefore_26 : decode cX6_isBefore 26 = .ok (.iaload, 1) := allD_get dtX6_isBefore 16 rfl
theorem dX6_isBefore_27 : decode cX6_isBefore 27 = .ok (.if_icmp .ge 7, 3) := allD_get dtX6_isBefore 17 rfl
theorem dX6_isBefore_30 : decode cX6_isBefore 30 = .ok (.iconst 1, 1) := allD_get dtX6_isBefore 18 rfl
theorem dX6_isBefore_31 : decode cX6_isBefore 31 = .ok (.goto 4, 3) := allD_get dtX6_isBefore 19 rfl
theorem dX6_isBefore_34 : decode cX6_isBefore 34 = .ok (.iconst 0, 1) := allD_get dtX6_isBefore 20 rfl
theorem dX6_isBefore_35 : decode cX6_isBefore 35 = .ok (.ireturn, 1) := allD_get dtX6_isBefore 21 rfl
theorem dX6_isBefore_36 : decode cX6_isBefore 36 = .ok (.aload_n 0, 1) := allD_get dtX6_isBefore 22 rfl
theorem dX6_isBefore_37 : decode cX6_isBefore 37 = .ok (.getfield 42, 3) := allD_get dtX6_isBefore 23 rfl
theorem dX6_isBefore_40 : decode cX6_isBefore 40 = .ok (.iload_n 1, 1) := allD_get dtX6_isBefore 24 rfl
theorem dX6_isBefore_41 : decode cX6_isBefore 41 = .ok (.iaload, 1) := allD_get dtX6_isBefore 25 rfl
theorem dX6_isBefore_42 : decode cX6_isBefore 42 = .ok (.aload_n 0, 1) := allD_get dtX6_isBefore 26 rfl
theorem dX6_isBefore_43 : decode cX6_isBefore 43 = .ok (.getfield 42, 3) := allD_get dtX6_isBefore 27 rfl
theorem dX6_isBefore_46 : decode cX6_isBefore 46 = .ok (.iload_n 2, 1) := allD_get dtX6_isBefore 28 rfl
theorem dX6_isBefore_47 : decode cX6_isBefore 47 = .ok (.iaload, 1) := allD_get dtX6_isBefore 29 rfl
theorem dX6_isBefore_48 : decode cX6_isBefore 48 = .ok (.if_icmp .eq 24, 3) := allD_get dtX6_isBefore 30 rfl
theorem dX6_isBefore_51 : decode cX6_isBefore 51 = .ok (.aload_n 0, 1) := allD_get dtX6_isBefore 31 rfl
theorem dX6_isBefore_52 : decode cX6_isBefore 52 = .ok (.getfield 42, 3) := allD_get dtX6_isBefore 32 rfl
theorem dX6_isBefore_55 : decode cX6_isBefore 55 = .ok (.iload_n 1, 1) := allD_get dtX6_isBefore 33 rfl
theorem dX6_isBefore_56 : decode cX6_isBefore 56 = .ok (.iaload, 1) := allD_get dtX6_isBefore 34 rfl
theorem dX6_isBefore_57 : decode cX6_isBefore 57 = .ok (.aload_n 0, 1) := allD_get dtX6_isBefore 35 rfl
theorem dX6_isBefore_58 : decode cX6_isBefore 58 = .ok (.getfield 42, 3) := allD_get dtX6_isBefore 36 rfl
theorem dX6_isBefore_61 : decode cX6_isBefore 61 = .ok (.iload_n 2, 1) := allD_get dtX6_isBefore 37 rfl
theorem dX6_isBefore_62 : decode cX6_isBefore 62 = .ok (.iaload, 1) := allD_get dtX6_isBefore 38 rfl
theorem dX6_isBefore_63 : decode cX6_isBefore 63 = .ok (.if_icmp .ge 7, 3) := allD_get dtX6_isBefore 39 rfl
theorem dX6_isBefore_66 : decode cX6_isBefore 66 = .ok (.iconst 1, 1) := allD_get dtX6_isBefore 40 rfl
theorem dX6_isBefore_67 : decode cX6_isBefore 67 = .ok (.goto 4, 3) := allD_get dtX6_isBefore 41 rfl
theorem dX6_isBefore_70 : decode cX6_isBefore 70 = .ok (.iconst 0, 1) := allD_get dtX6_isBefore 42 rfl
theorem dX6_isBefore_71 : decode cX6_isBefore 71 = .ok (.ireturn, 1) := allD_get dtX6_isBefore 43 rfl
theorem dX6_isBefore_72 : decode cX6_isBefore 72 = .ok (.iload_n 1, 1) := allD_get dtX6_isBefore 44 rfl
theorem dX6_isBefore_73 : decode cX6_isBefore 73 = .ok (.iload_n 2, 1) := allD_get dtX6_isBefore 45 rfl
theorem dX6_isBefore_74 : decode cX6_isBefore 74 = .ok (.if_icmp .ge 7, 3) := allD_get dtX6_isBefore 46 rfl
theorem dX6_isBefore_77 : decode cX6_isBefore 77 = .ok (.iconst 1, 1) := allD_get dtX6_isBefore 47 rfl
theorem dX6_isBefore_78 : decode cX6_isBefore 78 = .ok (.goto 4, 3) := allD_get dtX6_isBefore 48 rfl
theorem dX6_isBefore_81 : decode cX6_isBefore 81 = .ok (.iconst 0, 1) := allD_get dtX6_isBefore 49 rfl
theorem dX6_isBefore_82 : decode cX6_isBefore 82 = .ok (.ireturn, 1) := allD_get dtX6_isBefore 50 rfl
