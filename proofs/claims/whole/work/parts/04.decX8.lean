/-! the instructions of X8's methods, by program -/
def tbX8_init : List (Nat × Instr × Nat) := [(0, .aload_n 0, 1), (1, .invokespecial 1, 3), (4, .aload_n 0, 1), (5, .sipush 801, 3), (8, .newarray .int, 2), (10, .putfield 7, 3), (13, .aload_n 0, 1), (14, .bipush 20, 2), (16, .putfield 13, 3), (19, .aload_n 0, 1), (20, .sipush 4806, 3), (23, .newarray .int, 2), (25, .putfield 17, 3), (28, .aload_n 0, 1), (29, .sipush 4806, 3), (32, .newarray .int, 2), (34, .putfield 20, 3), (37, .aload_n 0, 1), (38, .bipush 24, 2), (40, .newarray .int, 2), (42, .putfield 23, 3), (45, .aload_n 0, 1), (46, .bipush 24, 2), (48, .newarray .int, 2), (50, .putfield 26, 3), (53, .aload_n 0, 1), (54, .bipush 100, 2), (56, .newarray .char, 2), (58, .putfield 29, 3), (61, .aload_n 0, 1), (62, .bipush 24, 2), (64, .newarray .int, 2), (66, .putfield 33, 3), (69, .aload_n 0, 1), (70, .bipush 24, 2), (72, .newarray .int, 2), (74, .putfield 36, 3), (77, .aload_n 0, 1), (78, .sipush 801, 3), (81, .newarray .int, 2), (83, .putfield 39, 3), (86, .aload_n 0, 1), (87, .bipush 24, 2), (89, .newarray .int, 2), (91, .putfield 42, 3), (94, .aload_n 0, 1), (95, .bipush 24, 2), (97, .newarray .int, 2), (99, .putfield 45, 3), (102, .aload_n 0, 1), (103, .bipush 24, 2), (105, .newarray .int, 2), (107, .putfield 48, 3), (110, .aload_n 0, 1), (111, .bipush 24, 2), (113, .newarray .int, 2), (115, .putfield 51, 3), (118, .aload_n 0, 1), (119, .bipush 16, 2), (121, .newarray .int, 2), (123, .putfield 54, 3), (126, .aload_n 0, 1), (127, .bipush 16, 2), (129, .newarray .int, 2), (131, .putfield 57, 3), (134, .aload_n 0, 1), (135, .bipush 16, 2), (137, .newarray .int, 2), (139, .putfield 60, 3), (142, .aload_n 0, 1), (143, .bipush 16, 2), (145, .newarray .int, 2), (147, .putfield 63, 3), (150, .aload_n 0, 1), (151, .bipush 16, 2), (153, .newarray .int, 2), (155, .putfield 66, 3), (158, .aload_n 0, 1), (159, .bipush 16, 2), (161, .newarray .int, 2), (163, .putfield 69, 3), (166, .aload_n 0, 1), (167, .sipush 10201, 3), (170, .newarray .int, 2), (172, .putfield 72, 3), (175, .return_, 1)]
set_option maxRecDepth 100000 in
theorem dtX8_init : allD cX8_init tbX8_init = true := by decide +kernel
theorem dX8_init_0 : decode cX8_init 0 = .ok (.aload_n 0, 1) := allD_get dtX8_init 0 rfl
theorem dX8_init_1 : decode cX8_init 1 = .ok (.invokespecial 1, 3) := allD_get dtX8_init 1 rfl
theorem dX8_init_4 : decode cX8_init 4 = .ok (.aload_n 0, 1) := allD_get dtX8_init 2 rfl
theorem dX8_init_5 : decode cX8_init 5 = .ok (.sipush 801, 3) := allD_get dtX8_init 3 rfl
theorem dX8_init_8 : decode cX8_init 8 = .ok (.newarray .int, 2) := allD_get dtX8_init 4 rfl
theorem dX8_init_10 : decode cX8_init 10 = .ok (.putfield 7, 3) := allD_get dtX8_init 5 rfl
theorem dX8_init_13 : decode cX8_init 13 = .ok (.aload_n 0, 1) := allD_get dtX8_init 6 rfl
theorem dX8_init_14 : decode cX8_init 14 = .ok (.bipush 20, 2) := allD_get dtX8_init 7 rfl
theorem dX8_init_16 : decode cX8_init 16 = .ok (.putfield 13, 3) := allD_get dtX8_init 8 rfl
theorem dX8_init_19 : decode cX8_init 19 = .ok (.aload_n 0, 1) := allD_get dtX8_init 9 rfl
theorem dX8_init_20 : decode cX8_init 20 = .ok (.sipush 4806, 3) := allD_get dtX8_init 10 rfl
theorem dX8_init_23 : decode cX8_init 23 = .ok (.newarray .int, 2) := allD_get dtX8_init 11 rfl
theorem dX8_init_25 : decode cX8_init 25 = .ok (.putfield 17, 3) := allD_get dtX8_init 12 rfl
theorem dX8_init_28 : decode cX8_init 28 = .ok (.aload_n 0, 1) := allD_get dtX8_init 13 rfl
theorem dX8_init_29 : decode cX8_init 29 = .ok (.sipush 4806, 3) := allD_get dtX8_init 14 rfl
theorem dX8_init_32 : decode cX8_init 32 = .ok (.newarray .int, 2) := allD_get dtX8_init 15 rfl
theorem dX8_init_34 : decode cX8_init 34 = .ok (.putfield 20, 3) := allD_get dtX8_init 16 rfl
theorem dX8_init_37 : decode cX8_init 37 = .ok (.aload_n 0, 1) := allD_get dtX8_init 17 rfl
theorem dX8_init_38 : decode cX8_init 38 = .ok (.bipush 24, 2) := allD_get dtX8_init 18 rfl
theorem dX8_init_40 : decode cX8_init 40 = .ok (.newarray .int, 2) := allD_get dtX8_init 19 rfl
theorem dX8_init_42 : decode cX8_init 42 = .ok (.putfield 23, 3) := allD_get dtX8_init 20 rfl
theorem dX8_init_45 : decode cX8_init 45 = .ok (.aload_n 0, 1) := allD_get dtX8_init 21 rfl
theorem dX8_init_46 : decode cX8_init 46 = .ok (.bipush 24, 2) := allD_get dtX8_init 22 rfl
theorem dX8_init_48 : decode cX8_init 48 = .ok (.newarray .int, 2) := allD_get dtX8_init 23 rfl
theorem dX8_init_50 : decode cX8_init 50 = .ok (.putfield 26, 3) := allD_get dtX8_init 24 rfl
theorem dX8_init_53 : decode cX8_init 53 = .ok (.aload_n 0, 1) := allD_get dtX8_init 25 rfl
theorem dX8_init_54 : decode cX8_init 54 = .ok (.bipush 100, 2) := allD_get dtX8_init 26 rfl
theorem dX8_init_56 : decode cX8_init 56 = .ok (.newarray .char, 2) := allD_get dtX8_init 27 rfl
theorem dX8_init_58 : decode cX8_init 58 = .ok (.putfield 29, 3) := allD_get dtX8_init 28 rfl
theorem dX8_init_61 : decode cX8_init 61 = .ok (.aload_n 0, 1) := allD_get dtX8_init 29 rfl
theorem dX8_init_62 : decode cX8_init 62 = .ok (.bipush 24, 2) := allD_get dtX8_init 30 rfl
theorem dX8_init_64 : decode cX8_init 64 = .ok (.newarray .int, 2) := allD_get dtX8_init 31 rfl
theorem dX8_init_66 : decode cX8_init 66 = .ok (.putfield 33, 3) := allD_get dtX8_init 32 rfl
theorem dX8_init_69 : decode cX8_init 69 = .ok (.aload_n 0, 1) := allD_get dtX8_init 33 rfl
theorem dX8_init_70 : decode cX8_init 70 = .ok (.bipush 24, 2) := allD_get dtX8_init 34 rfl
theorem dX8_init_72 : decode cX8_init 72 = .ok (.newarray .int, 2) := allD_get dtX8_init 35 rfl
theorem dX8_init_74 : decode cX8_init 74 = .ok (.putfield 36, 3) := allD_get dtX8_init 36 rfl
theorem dX8_init_77 : decode cX8_init 77 = .ok (.aload_n 0, 1) := allD_get dtX8_init 37 rfl
theorem dX8_init_78 : decode cX8_init 78 = .ok (.sipush 801, 3) := allD_get dtX8_init 38 rfl
theorem dX8_init_81 : decode cX8_init 81 = .ok (.newarray .int, 2) := allD_get dtX8_init 39 rfl
theorem dX8_init_83 : decode cX8_init 83 = .ok (.putfield 39, 3) := allD_get dtX8_init 40 rfl
theorem dX8_init_86 : decode cX8_init 86 = .ok (.aload_n 0, 1) := allD_get dtX8_init 41 rfl
theorem dX8_init_87 : decode cX8_init 87 = .ok (.bipush 24, 2) := allD_get dtX8_init 42 rfl
theorem dX8_init_89 : decode cX8_init 89 = .ok (.newarray .int, 2) := allD_get dtX8_init 43 rfl
theorem dX8_init_91 : decode cX8_init 91 = .ok (.putfield 42, 3) := allD_get dtX8_init 44 rfl
theorem dX8_init_94 : decode cX8_init 94 = .ok (.aload_n 0, 1) := allD_get dtX8_init 45 rfl
theorem dX8_init_95 : decode cX8_init 95 = .ok (.bipush 24, 2) := allD_get dtX8_init 46 rfl
theorem dX8_init_97 : decode cX8_init 97 = .ok (.newarray .int, 2) := allD_get dtX8_init 47 rfl
theorem dX8_init_99 : decode cX8_init 99 = .ok (.putfield 45, 3) := allD_get dtX8_init 48 rfl
theorem dX8_init_102 : decode cX8_init 102 = .ok (.aload_n 0, 1) := allD_get dtX8_init 49 rfl
theorem dX8_init_103 : decode cX8_init 103 = .ok (.bipush 24, 2) := allD_get dtX8_init 50 rfl
theorem dX8_init_105 : decode cX8_init 105 = .ok (.newarray .int, 2) := allD_get dtX8_init 51 rfl
theorem dX8_init_107 : decode cX8_init 107 = .ok (.putfield 48, 3) := allD_get dtX8_init 52 rfl
theorem dX8_init_110 : decode cX8_init 110 = .ok (.aload_n 0, 1) := allD_get dtX8_init 53 rfl
theorem dX8_init_111 : decode cX8_init 111 = .ok (.bipush 24, 2) := allD_get dtX8_init 54 rfl
theorem dX8_init_113 : decode cX8_init 113 = .ok (.newarray .int, 2) := allD_get dtX8_init 55 rfl
theorem dX8_init_115 : decode cX8_init 115 = .ok (.putfield 51, 3) := allD_get dtX8_init 56 rfl
theorem dX8_init_118 : decode cX8_init 118 = .ok (.aload_n 0, 1) := allD_get dtX8_init 57 rfl
theorem dX8_init_119 : decode cX8_init 119 = .ok (.bipush 16, 2) := allD_get dtX8_init 58 rfl
theorem dX8_init_121 : decode cX8_init 121 = .ok (.newarray .int, 2) := allD_get dtX8_init 59 rfl
theorem dX8_init_123 : decode cX8_init 123 = .ok (.putfield 54, 3) := allD_get dtX8_init 60 rfl
theorem dX8_init_126 : decode cX8_init 126 = .ok (.aload_n 0, 1) := allD_get dtX8_init 61 rfl
theorem dX8_init_127 : decode cX8_init 127 = .ok (.bipush 16, 2) := allD_get dtX8_init 62 rfl
theorem dX8_init_129 : decode cX8_init 129 = .ok (.newarray .int, 2) := allD_get dtX8_init 63 rfl
theorem dX8_init_131 : decode cX8_init 131 = .ok (.putfield 57, 3) := allD_get dtX8_init 64 rfl
theorem dX8_init_134 : decode cX8_init 134 = .ok (.aload_n 0, 1) := allD_get dtX8_init 65 rfl
theorem dX8_init_135 : decode cX8_init 135 = .ok (.bipush 16, 2) := allD_get dtX8_init 66 rfl
theorem dX8_init_137 : decode cX8_init 137 = .ok (.newarray .int, 2) := allD_get dtX8_init 67 rfl
theorem dX8_init_139 : decode cX8_init 139 = .ok (.putfield 60, 3) := allD_get dtX8_init 68 rfl
theorem dX8_init_142 : decode cX8_init 142 = .ok (.aload_n 0, 1) := allD_get dtX8_init 69 rfl
theorem dX8_init_143 : decode cX8_init 143 = .ok (.bipush 16, 2) := allD_get dtX8_init 70 rfl
theorem dX8_init_145 : decode cX8_init 145 = .ok (.newarray .int, 2) := allD_get dtX8_init 71 rfl
theorem dX8_init_147 : decode cX8_init 147 = .ok (.putfield 63, 3) := allD_get dtX8_init 72 rfl
theorem dX8_init_150 : decode cX8_init 150 = .ok (.aload_n 0, 1) := allD_get dtX8_init 73 rfl
theorem dX8_init_151 : decode cX8_init 151 = .ok (.bipush 16, 2) := allD_get dtX8_init 74 rfl
theorem dX8_init_153 : decode cX8_init 153 = .ok (.newarray .int, 2) := allD_get dtX8_init 75 rfl
theorem dX8_init_155 : decode cX8_init 155 = .ok (.putfield 66, 3) := allD_get dtX8_init 76 rfl
theorem dX8_init_158 : decode cX8_init 158 = .ok (.aload_n 0, 1) := allD_get dtX8_init 77 rfl
theorem dX8_init_159 : decode cX8_init 159 = .ok (.bipush 16, 2) := allD_get dtX8_init 78 rfl
theorem dX8_init_161 : decode cX8_init 161 = .ok (.newarray .int, 2) := allD_get dtX8_init 79 rfl
theorem dX8_init_163 : decode cX8_init 163 = .ok (.putfield 69, 3) := allD_get dtX8_init 80 rfl
theorem dX8_init_166 : decode cX8_init 166 = .ok (.aload_n 0, 1) := allD_get dtX8_init 81 rfl
theorem dX8_init_167 : decode cX8_init 167 = .ok (.sipush 10201, 3) := allD_get dtX8_init 82 rfl
theorem dX8_init_170 : decode cX8_init 170 = .ok (.newarray .int, 2) := allD_get dtX8_init 83 rfl
theorem dX8_init_172 : decode cX8_init 172 = .ok (.putfield 72, 3) := allD_get dtX8_init 84 rfl
theorem dX8_init_175 : decode cX8_init 175 = .ok (.return_, 1) := allD_get dtX8_init 85 rfl
def tbX8_in : List (Nat × Instr × Nat) := [(0, .iload_n 0, 1), (1, .iload_n 1, 1), (2, .if_icmp .lt 12, 3), (5, .iload_n 0, 1), (6, .iload_n 2, 1), (7, .if_icmp .gt 7, 3), (10, .iconst 1, 1), (11, .goto 4, 3), (14, .iconst 0, 1), (15, .ireturn, 1)]
set_option maxRecDepth 100000 in
theorem dtX8_in : allD cX8_in tbX8_in = true := by decide +kernel
theorem dX8_in_0 : decode cX8_in 0 = .ok (.iload_n 0, 1) := allD_get dtX8_in 0 rfl
theorem dX8_in_1 : decode cX8_in 1 = .ok (.iload_n 1, 1) := allD_get dtX8_in 1 rfl
theorem dX8_in_2 : decode cX8_in 2 = .ok (.if_icmp .lt 12, 3) := allD_get dtX8_in 2 rfl
theorem dX8_in_5 : decode cX8_in 5 = .ok (.iload_n 0, 1) := allD_get dtX8_in 3 rfl
theorem dX8_in_6 : decode cX8_in 6 = .ok (.iload_n 2, 1) := allD_get dtX8_in 4 rfl
theorem dX8_in_7 : decode cX8_in 7 = .ok (.if_icmp .gt 7, 3) := allD_get dtX8_in 5 rfl
theorem dX8_in_10 : decode cX8_in 10 = .ok (.iconst 1, 1) := allD_get dtX8_in 6 rfl
theorem dX8_in_11 : decode cX8_in 11 = .ok (.goto 4, 3) := allD_get dtX8_in 7 rfl
theorem dX8_in_14 : decode cX8_in 14 = .ok (.iconst 0, 1) := allD_get dtX8_in 8 rfl
theorem dX8_in_15 : decode cX8_in 15 = .ok (.ireturn, 1) := allD_get dtX8_in 9 rfl
def tbX8_isPlace : List (Nat × Instr × Nat) := [(0, .iload_n 0, 1), (1, .iconst 0, 1), (2, .sipush 1000, 3), (5, .invokestatic 75, 3), (8, .ireturn, 1)]
set_option maxRecDepth 100000 in
theorem dtX8_isPlace : allD cX8_isPlace tbX8_isPlace = true := by decide +kernel
theorem dX8_isPlace_0 : decode cX8_isPlace 0 = .ok (.iload_n 0, 1) := allD_get dtX8_isPlace 0 rfl
theorem dX8_isPlace_1 : decode cX8_isPlace 1 = .ok (.iconst 0, 1) := allD_get dtX8_isPlace 1 rfl
theorem dX8_isPlace_2 : decode cX8_isPlace 2 = .ok (.sipush 1000, 3) := allD_get dtX8_isPlace 2 rfl
theorem dX8_isPlace_5 : decode cX8_isPlace 5 = .ok (.invokestatic 75, 3) := allD_get dtX8_isPlace 3 rfl
theorem dX8_isPlace_8 : decode cX8_isPlace 8 = .ok (.ireturn, 1) := allD_get dtX8_isPlace 4 rfl
def tbX8_strokes : List (Nat × Instr × Nat) := [(0, .aload_n 0, 1), (1, .getfield 7, 3), (4, .iconst 0, 1), (5, .iaload, 1), (6, .ireturn, 1)]
set_option maxRecDepth 100000 in
theorem dtX8_strokes : allD cX8_strokes tbX8_strokes = true := by decide +kernel
theorem dX8_strokes_0 : decode cX8_strokes 0 = .ok (.aload_n 0, 1) := allD_get dtX8_strokes 0 rfl
theorem dX8_strokes_1 : decode cX8_strokes 1 = .ok (.getfield 7, 3) := allD_get dtX8_strokes 1 rfl
theorem dX8_strokes_4 : decode cX8_strokes 4 = .ok (.iconst 0, 1) := allD_get dtX8_strokes 2 rfl
theorem dX8_strokes_5 : decode cX8_strokes 5 = .ok (.iaload, 1) := allD_get dtX8_strokes 3 rfl
theorem dX8_strokes_6 : decode cX8_strokes 6 = .ok (.ireturn, 1) := allD_get dtX8_strokes 4 rfl
def tbX8_size : List (Nat × Instr × Nat) := [(0, .aload_n 0, 1), (1, .getfield 7, 3), (4, .iconst 1, 1), (5, .iload_n 1, 1), (6, .iadd, 1), (7, .iaload, 1), (8, .ireturn, 1)]
set_option maxRecDepth 100000 in
theorem dtX8_size : allD cX8_size tbX8_size = true := by decide +kernel
theorem dX8_size_0 : decode cX8_size 0 = .ok (.aload_n 0, 1) := allD_get dtX8_size 0 rfl
theorem dX8_size_1 : decode cX8_size 1 = .ok (.getfield 7, 3) := allD_get dtX8_size 1 rfl
theorem dX8_size_4 : decode cX8_size 4 = .ok (.iconst 1, 1) := allD_get dtX8_size 2 rfl
theorem dX8_size_5 : decode cX8_size 5 = .ok (.iload_n 1, 1) := allD_get dtX8_size 3 rfl
theorem dX8_size_6 : decode cX8_size 6 = .ok (.iadd, 1) := allD_get dtX8_size 4 rfl
theorem dX8_size_7 : decode cX8_size 7 = .ok (.iaload, 1) := allD_get dtX8_size 5 rfl
theorem dX8_size_8 : decode cX8_size 8 = .ok (.ireturn, 1) := allD_get dtX8_size 6 rfl
def tbX8_x : List (Nat × Instr × Nat) := [(0, .aload_n 0, 1), (1, .getfield 7, 3), (4, .bipush 33, 2), (6, .bipush 24, 2), (8, .iload_n 1, 1), (9, .imul, 1), (10, .iadd, 1), (11, .iload_n 2, 1), (12, .iadd, 1), (13, .iaload, 1), (14, .ireturn, 1)]
set_option maxRecDepth 100000 in
theorem dtX8_x : allD cX8_x tbX8_x = true := by decide +kernel
theorem dX8_x_0 : decode cX8_x 0 = .ok (.aload_n 0, 1) := allD_get dtX8_x 0 rfl
theorem dX8_x_1 : decode cX8_x 1 = .ok (.getfield 7, 3) := allD_get dtX8_x 1 rfl
theorem dX8_x_4 : decode cX8_x 4 = .ok (.bipush 33, 2) := allD_get dtX8_x 2 rfl
theorem dX8_x_6 : decode cX8_x 6 = .ok (.bipush 24, 2) := allD_get dtX8_x 3 rfl
theorem dX8_x_8 : decode cX8_x 8 = .ok (.iload_n 1, 1) := allD_get dtX8_x 4 rfl
theorem dX8_x_9 : decode cX8_x 9 = .ok (.imul, 1) := allD_get dtX8_x 5 rfl
theorem dX8_x_10 : decode cX8_x 10 = .ok (.iadd, 1) := allD_get dtX8_x 6 rfl
theorem dX8_x_11 : decode cX8_x 11 = .ok (.iload_n 2, 1) := allD_get dtX8_x 7 rfl
theorem dX8_x_12 : decode cX8_x 12 = .ok (.iadd, 1) := allD_get dtX8_x 8 rfl
theorem dX8_x_13 : decode cX8_x 13 = .ok (.iaload, 1) := allD_get dtX8_x 9 rfl
theorem dX8_x_14 : decode cX8_x 14 = .ok (.ireturn, 1) := allD_get dtX8_x 10 rfl
def tbX8_y : List (Nat × Instr × Nat) := [(0, .aload_n 0, 1), (1, .getfield 7, 3), (4, .sipush 417, 3), (7, .bipush 24, 2), (9, .iload_n 1, 1), (10, .imul, 1), (11, .iadd, 1), (12, .iload_n 2, 1), (13, .iadd, 1), (14, .iaload, 1), (15, .ireturn, 1)]
set_option maxRecDepth 100000 in
theorem dtX8_y : allD cX8_y tbX8_y = true := by decide +kernel
theorem dX8_y_0 : decode cX8_y 0 = .ok (.aload_n 0, 1) := allD_get dtX8_y 0 rfl
theorem dX8_y_1 : decode cX8_y 1 = .ok (.getfield 7, 3) := allD_get dtX8_y 1 rfl
theorem dX8_y_4 : decode cX8_y 4 = .ok (.sipush 417, 3) := allD_get dtX8_y 2 rfl
theorem dX8_y_7 : decode cX8_y 7 = .ok (.bipush 24, 2) := allD_get dtX8_y 3 rfl
theorem dX8_y_9 : decode cX8_y 9 = .ok (.iload_n 1, 1) := allD_get dtX8_y 4 rfl
theorem dX8_y_10 : decode cX8_y 10 = .ok (.imul, 1) := allD_get dtX8_y 5 rfl
theorem dX8_y_11 : decode cX8_y 11 = .ok (.iadd, 1) := allD_get dtX8_y 6 rfl
theorem dX8_y_12 : decode cX8_y 12 = .ok (.iload_n 2, 1) := allD_get dtX8_y 7 rfl
theorem dX8_y_13 : decode cX8_y 13 = .ok (.iadd, 1) := allD_get dtX8_y 8 rfl
theorem dX8_y_14 : decode cX8_y 14 = .ok (.iaload, 1) := allD_get dtX8_y 9 rfl
theorem dX8_y_15 : decode cX8_y 15 = .ok (.ireturn, 1) := allD_get dtX8_y 10 rfl
def tbX8_copyRow : List (Nat × Instr × Nat) := [(0, .iconst 0, 1), (1, .istore 4, 2), (3, .iload 4, 2), (5, .sipush 801, 3), (8, .if_icmp .ge 21, 3), (11, .aload_n 2, 1), (12, .iload_n 3, 1), (13, .iload 4, 2), (15, .iadd, 1), (16, .aload_n 0, 1), (17, .iload_n 1, 1), (18, .iload 4, 2), (20, .iadd, 1), (21, .iaload, 1), (22, .iastore, 1), (23, .iinc 4 1, 3), (26, .goto (-23), 3), (29, .return_, 1)]
set_option maxRecDepth 100000 in
theorem dtX8_copyRow : allD cX8_copyRow tbX8_copyRow = true := by decide +kernel
theorem dX8_copyRow_0 : decode cX8_copyRow 0 = .ok (.iconst 0, 1) := allD_get dtX8_copyRow 0 rfl
theorem dX8_copyRow_1 : decode cX8_copyRow 1 = .ok (.istore 4, 2) := allD_get dtX8_copyRow 1 rfl
theorem dX8_copyRow_3 : decode cX8_copyRow 3 = .ok (.iload 4, 2) := allD_get dtX8_copyRow 2 rfl
theorem dX8_copyRow_5 : decode cX8_copyRow 5 = .ok (.sipush 801, 3) := allD_get dtX8_copyRow 3 rfl
theorem dX8_copyRow_8 : decode cX8_copyRow 8 = .ok (.if_icmp .ge 21, 3) := allD_get dtX8_copyRow 4 rfl
theorem dX8_copyRow_11 : decode cX8_copyRow 11 = .ok (.aload_n 2, 1) := allD_get dtX8_copyRow 5 rfl
theorem dX8_copyRow_12 : decode cX8_copyRow 12 = .ok (.iload_n 3, 1) := allD_get dtX8_copyRow 6 rfl
theorem dX8_copyRow_13 : decode cX8_copyRow 13 = .ok (.iload 4, 2) := allD_get dtX8_copyRow 7 rfl
theorem dX8_copyRow_15 : decode cX8_copyRow 15 = .ok (.iadd, 1) := allD_get dtX8_copyRow 8 rfl
theorem dX8_copyRow_16 : decode cX8_copyRow 16 = .ok (.aload_n 0, 1) := allD_get dtX8_copyRow 9 rfl
theorem dX8_copyRow_17 : decode cX8_copyRow 17 = .ok (.iload_n 1, 1) := allD_get dtX8_copyRow 10 rfl
theorem dX8_copyRow_18 : decode cX8_copyRow 18 = .ok (.iload 4, 2) := allD_get dtX8_copyRow 11 rfl
theorem dX8_copyRow_20 : decode cX8_copyRow 20 = .ok (.iadd, 1) := allD_get dtX8_copyRow 12 rfl
theorem dX8_copyRow_21 : decode cX8_copyRow 21 = .ok (.iaload, 1) := allD_get dtX8_copyRow 13 rfl
theorem dX8_copyRow_22 : decode cX8_copyRow 22 = .ok (.iastore, 1) := allD_get dtX8_copyRow 14 rfl
theorem dX8_copyRow_23 : decode cX8_copyRow 23 = .ok (.iinc 4 1, 3) := allD_get dtX8_copyRow 15 rfl
theorem dX8_copyRow_26 : decode cX8_copyRow 26 = .ok (.goto (-23), 3) := allD_get dtX8_copyRow 16 rfl
theorem dX8_copyRow_29 : decode cX8_copyRow 29 = .ok (.return_, 1) := allD_get dtX8_copyRow 17 rfl
def tbX8_push : List (Nat × Instr × Nat) := [(0, .aload_n 0, 1), (1, .getfield 79, 3), (4, .bipush 6, 2), (6, .if_icmp .ne 49, 3), (9, .aload_n 0, 1), (10, .dup, 1), (11, .getfield 79, 3), (14, .iconst 1, 1), (15, .isub, 1), (16, .putfield 79, 3), (19, .iconst 0, 1), (20, .istore_n 1, 1), (21, .iload_n 1, 1), (22, .sipush 801, 3), (25, .aload_n 0, 1), (26, .getfield 79, 3), (29, .imul, 1), (30, .if_icmp .ge 25, 3), (33, .aload_n 0, 1), (34, .getfield 17, 3), (37, .iload_n 1, 1), (38, .aload_n 0, 1), (39, .getfield 17, 3), (42, .iload_n 1, 1), (43, .sipush 801, 3), (46, .iadd, 1), (47, .iaload, 1), (48, .iastore, 1), (49, .iinc 1 1, 3), (52, .goto (-31), 3), (55, .aload_n 0, 1), (56, .getfield 7, 3), (59, .iconst 0, 1), (60, .aload_n 0, 1), (61, .getfield 17, 3), (64, .sipush 801, 3), (67, .aload_n 0, 1), (68, .getfield 79, 3), (71, .imul, 1), (72, .invokestatic 82, 3), (75, .aload_n 0, 1), (76, .dup, 1), (77, .getfield 79, 3), (80, .iconst 1, 1), (81, .iadd, 1), (82, .putfield 79, 3), (85, .return_, 1)]
set_option maxRecDepth 100000 in
theorem dtX8_push : allD cX8_push tbX8_push = true := by decide +kernel
theorem dX8_push_0 : decode cX8_push 0 = .ok (.aload_n 0, 1) := allD_get dtX8_push 0 rfl
theorem dX8_push_1 : decode cX8_push 1 = .ok (.getfield 79, 3) := allD_get dtX8_push 1 rfl
theorem dX8_push_4 : decode cX8_push 4 = .ok (.bipush 6, 2) := allD_get dtX8_push 2 rfl
theorem dX8_push_6 : decode cX8_push 6 = .ok (.if_icmp .ne 49, 3) := allD_get dtX8_push 3 rfl
theorem dX8_push_9 : decode cX8_push 9 = .ok (.aload_n 0, 1) := allD_get dtX8_push 4 rfl
theorem dX8_push_10 : decode cX8_push 10 = .ok (.dup, 1) := allD_get dtX8_push 5 rfl
theorem dX8_push_11 : decode cX8_push 11 = .ok (.getfield 79, 3) := allD_get dtX8_push 6 rfl
theorem dX8_push_14 : decode cX8_push 14 = .ok (.iconst 1, 1) := allD_get dtX8_push 7 rfl
theorem dX8_push_15 : decode cX8_push 15 = .ok (.isub, 1) := allD_get dtX8_push 8 rfl
theorem dX8_push_16 : decode cX8_push 16 = .ok (.putfield 79, 3) := allD_get dtX8_push 9 rfl
theorem dX8_push_19 : decode cX8_push 19 = .ok (.iconst 0, 1) := allD_get dtX8_push 10 rfl
theorem dX8_push_20 : decode cX8_push 20 = .ok (.istore_n 1, 1) := allD_get dtX8_push 11 rfl
theorem dX8_push_21 : decode cX8_push 21 = .ok (.iload_n 1, 1) := allD_get dtX8_push 12 rfl
theorem dX8_push_22 : decode cX8_push 22 = .ok (.sipush 801, 3) := allD_get dtX8_push 13 rfl
theorem dX8_push_25 : decode cX8_push 25 = .ok (.aload_n 0, 1) := allD_get dtX8_push 14 rfl
theorem dX8_push_26 : decode cX8_push 26 = .ok (.getfield 79, 3) := allD_get dtX8_push 15 rfl
theorem dX8_push_29 : decode cX8_push 29 = .ok (.imul, 1) := allD_get dtX8_push 16 rfl
theorem dX8_push_30 : decode cX8_push 30 = .ok (.if_icmp .ge 25, 3) := allD_get dtX8_push 17 rfl
theorem dX8_push_33 : decode cX8_push 33 = .ok (.aload_n 0, 1) := allD_get dtX8_push 18 rfl
theorem dX8_push_34 : decode cX8_push 34 = .ok (.getfield 17, 3) := allD_get dtX8_push 19 rfl
theorem dX8_push_37 : decode cX8_push 37 = .ok (.iload_n 1, 1) := allD_get dtX8_push 20 rfl
theorem dX8_push_38 : decode cX8_push 38 = .ok (.aload_n 0, 1) := allD_get dtX8_push 21 rfl
theorem dX8_push_39 : decode cX8_push 39 = .ok (.getfield 17, 3) := allD_get dtX8_push 22 rfl
theorem dX8_push_42 : decode cX8_push 42 = .ok (.iload_n 1, 1) := allD_get dtX8_push 23 rfl
theorem dX8_push_43 : decode cX8_push 43 = .ok (.sipush 801, 3) := allD_get dtX8_push 24 rfl
theorem dX8_push_46 : decode cX8_push 46 = .ok (.iadd, 1) := allD_get dtX8_push 25 rfl
theorem dX8_push_47 : decode cX8_push 47 = .ok (.iaload, 1) := allD_get dtX8_push 26 rfl
theorem dX8_push_48 : decode cX8_push 48 = .ok (.iastore, 1) := allD_get dtX8_push 27 rfl
theorem dX8_push_49 : decode cX8_push 49 = .ok (.iinc 1 1, 3) := allD_get dtX8_push 28 rfl
theorem dX8_push_52 : decode cX8_push 52 = .ok (.goto (-31), 3) := allD_get dtX8_push 29 rfl
theorem dX8_push_55 : decode cX8_push 55 = .ok (.aload_n 0, 1) := allD_get dtX8_push 30 rfl
theorem dX8_push_56 : decode cX8_push 56 = .ok (.getfield 7, 3) := allD_get dtX8_push 31 rfl
theorem dX8_push_59 : decode cX8_push 59 = .ok (.iconst 0, 1) := allD_get dtX8_push 32 rfl
theorem dX8_push_60 : decode cX8_push 60 = .ok (.aload_n 0, 1) := allD_get dtX8_push 33 rfl
theorem dX8_push_61 : decode cX8_push 61 = .ok (.getfield 17, 3) := allD_get dtX8_push 34 rfl
theorem dX8_push_64 : decode cX8_push 64 = .ok (.sipush 801, 3) := allD_get dtX8_push 35 rfl
theorem dX8_push_67 : decode cX8_push 67 = .ok (.aload_n 0, 1) := allD_get dtX8_push 36 rfl
theorem dX8_push_68 : decode cX8_push 68 = .ok (.getfield 79, 3) := allD_get dtX8_push 37 rfl
theorem dX8_push_71 : decode cX8_push 71 = .ok (.imul, 1) := allD_get dtX8_push 38 rfl
theorem dX8_push_72 : decode cX8_push 72 = .ok (.invokestatic 82, 3) := allD_get dtX8_push 39 rfl
theorem dX8_push_75 : decode cX8_push 75 = .ok (.aload_n 0, 1) := allD_get dtX8_push 40 rfl
theorem dX8_push_76 : decode cX8_push 76 = .ok (.dup, 1) := allD_get dtX8_push 41 rfl
theorem dX8_push_77 : decode cX8_push 77 = .ok (.getfield 79, 3) := allD_get dtX8_push 42 rfl
theorem dX8_push_80 : decode cX8_push 80 = .ok (.iconst 1, 1) := allD_get dtX8_push 43 rfl
theorem dX8_push_81 : decode cX8_push 81 = .ok (.iadd, 1) := allD_get dtX8_push 44 rfl
theorem dX8_push_82 : decode cX8_push 82 = .ok (.putfield 79, 3) := allD_get dtX8_push 45 rfl
theorem dX8_push_85 : decode cX8_push 85 = .ok (.return_, 1) := allD_get dtX8_push 46 rfl
def tbX8_record : List (Nat × Instr × Nat) := [(0, .aload_n 0, 1), (1, .invokevirtual 86, 3), (4, .aload_n 0, 1), (5, .iconst 0, 1), (6, .putfield 89, 3), (9, .return_, 1)]
set_option maxRecDepth 100000 in
theorem dtX8_record : allD cX8_record tbX8_record = true := by decide +kernel
theorem dX8_record_0 : decode cX8_record 0 = .ok (.aload_n 0, 1) := allD_get dtX8_record 0 rfl
theorem dX8_record_1 : decode cX8_record 1 = .ok (.invokevirtual 86, 3) := allD_get dtX8_record 1 rfl
theorem dX8_record_4 : decode cX8_record 4 = .ok (.aload_n 0, 1) := allD_get dtX8_record 2 rfl
theorem dX8_record_5 : decode cX8_record 5 = .ok (.iconst 0, 1) := allD_get dtX8_record 3 rfl
theorem dX8_record_6 : decode cX8_record 6 = .ok (.putfield 89, 3) := allD_get dtX8_record 4 rfl
theorem dX8_record_9 : decode cX8_record 9 = .ok (.return_, 1) := allD_get dtX8_record 5 rfl
def tbX8_undo : List (Nat × Instr × Nat) := [(0, .aload_n 0, 1), (1, .getfield 79, 3), (4, .ifCond .ne 6, 3), (7, .bipush (-5), 2), (9, .ireturn, 1), (10, .aload_n 0, 1), (11, .getfield 7, 3), (14, .iconst 0, 1), (15, .aload_n 0, 1), (16, .getfield 20, 3), (19, .sipush 801, 3), (22, .aload_n 0, 1), (23, .getfield 89, 3), (26, .imul, 1), (27, .invokestatic 82, 3), (30, .aload_n 0, 1), (31, .dup, 1), (32, .getfield 89, 3), (35, .iconst 1, 1), (36, .iadd, 1), (37, .putfield 89, 3), (40, .aload_n 0, 1), (41, .dup, 1), (42, .getfield 79, 3), (45, .iconst 1, 1), (46, .isub, 1), (47, .putfield 79, 3), (50, .aload_n 0, 1), (51, .getfield 17, 3), (54, .sipush 801, 3), (57, .aload_n 0, 1), (58, .getfield 79, 3), (61, .imul, 1), (62, .aload_n 0, 1), (63, .getfield 7, 3), (66, .iconst 0, 1), (67, .invokestatic 82, 3), (70, .aload_n 0, 1), (71, .getfield 79, 3), (74, .ireturn, 1)]
set_option maxRecDepth 100000 in
theorem dtX8_undo : allD cX8_undo tbX8_undo = true := by decide +kernel
theorem dX8_undo_0 : decode cX8_undo 0 = .ok (.aload_n 0, 1) := allD_get dtX8_undo 0 rfl
theorem dX8_undo_1 : decode cX8_undo 1 = .ok (.getfield 79, 3) := allD_get dtX8_undo 1 rfl
theorem dX8_undo_4 : decode cX8_undo 4 = .ok (.ifCond .ne 6, 3) := allD_get dtX8_undo 2 rfl
theorem dX8_undo_7 : decode cX8_undo 7 = .ok (.bipush (-5), 2) := allD_get dtX8_undo 3 rfl
theorem dX8_undo_9 : decode cX8_undo 9 = .ok (.ireturn, 1) := allD_get dtX8_undo 4 rfl
theorem dX8_undo_10 : decode cX8_undo 10 = .ok (.aload_n 0, 1) := allD_get dtX8_undo 5 rfl
theorem dX8_undo_11 : decode cX8_undo 11 = .ok (.getfield 7, 3) := allD_get dtX8_undo 6 rfl
theorem dX8_undo_14 : decode cX8_undo 14 = .ok (.iconst 0, 1) := allD_get dtX8_undo 7 rfl
theorem dX8_undo_15 : decode cX8_undo 15 = .ok (.aload_n 0, 1) := allD_get dtX8_undo 8 rfl
theorem dX8_undo_16 : decode cX8_undo 16 = .ok (.getfield 20, 3) := allD_get dtX8_undo 9 rfl
theorem dX8_undo_19 : decode cX8_undo 19 = .ok (.sipush 801, 3) := allD_get dtX8_undo 10 rfl
theorem dX8_undo_22 : decode cX8_undo 22 = .ok (.aload_n 0, 1) := allD_get dtX8_undo 11 rfl
theorem dX8_undo_23 : decode cX8_undo 23 = .ok (.getfield 89, 3) := allD_get dtX8_undo 12 rfl
theorem dX8_undo_26 : decode cX8_undo 26 = .ok (.imul, 1) := allD_get dtX8_undo 13 rfl
theorem dX8_undo_27 : decode cX8_undo 27 = .ok (.invokestatic 82, 3) := allD_get dtX8_undo 14 rfl
theorem dX8_undo_30 : decode cX8_undo 30 = .ok (.aload_n 0, 1) := allD_get dtX8_undo 15 rfl
theorem dX8_undo_31 : decode cX8_undo 31 = .ok (.dup, 1) := allD_get dtX8_undo 16 rfl
theorem dX8_undo_32 : decode cX8_undo 32 = .ok (.getfield 89, 3) := allD_get dtX8_undo 17 rfl
theorem dX8_undo_35 : decode cX8_undo 35 = .ok (.iconst 1, 1) := allD_get dtX8_undo 18 rfl
theorem dX8_undo_36 : decode cX8_undo 36 = .ok (.iadd, 1) := allD_get dtX8_undo 19 rfl
theorem dX8_undo_37 : decode cX8_undo 37 = .ok (.putfield 89, 3) := allD_get dtX8_undo 20 rfl
theorem dX8_undo_40 : decode cX8_undo 40 = .ok (.aload_n 0, 1) := allD_get dtX8_undo 21 rfl
theorem dX8_undo_41 : decode cX8_undo 41 = .ok (.dup, 1) := allD_get dtX8_undo 22 rfl
theorem dX8_undo_42 : decode cX8_undo 42 = .ok (.getfield 79, 3) := allD_get dtX8_undo 23 rfl
theorem dX8_undo_45 : decode cX8_undo 45 = .ok (.iconst 1, 1) := allD_get dtX8_undo 24 rfl
theorem dX8_undo_46 : decode cX8_undo 46 = .ok (.isub, 1) := allD_get dtX8_undo 25 rfl
theorem dX8_undo_47 : decode cX8_undo 47 = .ok (.putfield 79, 3) := allD_get dtX8_undo 26 rfl
theorem dX8_undo_50 : decode cX8_undo 50 = .ok (.aload_n 0, 1) := allD_get dtX8_undo 27 rfl
theorem dX8_undo_51 : decode cX8_undo 51 = .ok (.getfield 17, 3) := allD_get dtX8_undo 28 rfl
theorem dX8_undo_54 : decode cX8_undo 54 = .ok (.sipush 801, 3) := allD_get dtX8_undo 29 rfl
theorem dX8_undo_57 : decode cX8_undo 57 = .ok (.aload_n 0, 1) := allD_get dtX8_undo 30 rfl
theorem dX8_undo_58 : decode cX8_undo 58 = .ok (.getfield 79, 3) := allD_get dtX8_undo 31 rfl
theorem dX8_undo_61 : decode cX8_undo 61 = .ok (.imul, 1) := allD_get dtX8_undo 32 rfl
theorem dX8_undo_62 : decode cX8_undo 62 = .ok (.aload_n 0, 1) := allD_get dtX8_undo 33 rfl
theorem dX8_undo_63 : decode cX8_undo 63 = .ok (.getfield 7, 3) := allD_get dtX8_undo 34 rfl
theorem dX8_undo_66 : decode cX8_undo 66 = .ok (.iconst 0, 1) := allD_get dtX8_undo 35 rfl
theorem dX8_undo_67 : decode cX8_undo 67 = .ok (.invokestatic 82, 3) := allD_get dtX8_undo 36 rfl
theorem dX8_undo_70 : decode cX8_undo 70 = .ok (.aload_n 0, 1) := allD_get dtX8_undo 37 rfl
theorem dX8_undo_71 : decode cX8_undo 71 = .ok (.getfield 79, 3) := allD_get dtX8_undo 38 rfl
theorem dX8_undo_74 : decode cX8_undo 74 = .ok (.ireturn, 1) := allD_get dtX8_undo 39 rfl
def tbX8_redo : List (Nat × Instr × Nat) := [(0, .aload_n 0, 1), (1, .getfield 89, 3), (4, .ifCond .ne 6, 3), (7, .bipush (-5), 2), (9, .ireturn, 1), (10, .aload_n 0, 1), (11, .invokevirtual 86, 3), (14, .aload_n 0, 1), (15, .dup, 1), (16, .getfield 89, 3), (19, .iconst 1, 1), (20, .isub, 1), (21, .putfield 89, 3), (24, .aload_n 0, 1), (25, .getfield 20, 3), (28, .sipush 801, 3), (31, .aload_n 0, 1), (32, .getfield 89, 3), (35, .imul, 1), (36, .aload_n 0, 1), (37, .getfield 7, 3), (40, .iconst 0, 1), (41, .invokestatic 82, 3), (44, .aload_n 0, 1), (45, .getfield 89, 3), (48, .ireturn, 1)]
set_option maxRecDepth 100000 in
theorem dtX8_redo : allD cX8_redo tbX8_redo = true := by decide +kernel
theorem dX8_redo_0 : decode cX8_redo 0 = .ok (.aload_n 0, 1) := allD_get dtX8_redo 0 rfl
theorem dX8_redo_1 : decode cX8_redo 1 = .ok (.getfield 89, 3) := allD_get dtX8_redo 1 rfl
theorem dX8_redo_4 : decode cX8_redo 4 = .ok (.ifCond .ne 6, 3) := allD_get dtX8_redo 2 rfl
theorem dX8_redo_7 : decode cX8_redo 7 = .ok (.bipush (-5), 2) := allD_get dtX8_redo 3 rfl
theorem dX8_redo_9 : decode cX8_redo 9 = .ok (.ireturn, 1) := allD_get dtX8_redo 4 rfl
theorem dX8_redo_10 : decode cX8_redo 10 = .ok (.aload_n 0, 1) := allD_get dtX8_redo 5 rfl
theorem dX8_redo_11 : decode cX8_redo 11 = .ok (.invokevirtual 86, 3) := allD_get dtX8_redo 6 rfl
theorem dX8_redo_14 : decode cX8_redo 14 = .ok (.aload_n 0, 1) := allD_get dtX8_redo 7 rfl
theorem dX8_redo_15 : decode cX8_redo 15 = .ok (.dup, 1) := allD_get dtX8_redo 8 rfl
theorem dX8_redo_16 : decode cX8_redo 16 = .ok (.getfield 89, 3) := allD_get dtX8_redo 9 rfl
theorem dX8_redo_19 : decode cX8_redo 19 = .ok (.iconst 1, 1) := allD_get dtX8_redo 10 rfl
theorem dX8_redo_20 : decode cX8_redo 20 = .ok (.isub, 1) := allD_get dtX8_redo 11 rfl
theorem dX8_redo_21 : decode cX8_redo 21 = .ok (.putfield 89, 3) := allD_get dtX8_redo 12 rfl
theorem dX8_redo_24 : decode cX8_redo 24 = .ok (.aload_n 0, 1) := allD_get dtX8_redo 13 rfl
theorem dX8_redo_25 : decode cX8_redo 25 = .ok (.getfield 20, 3) := allD_get dtX8_redo 14 rfl
theorem dX8_redo_28 : decode cX8_redo 28 = .ok (.sipush 801, 3) := allD_get dtX8_redo 15 rfl
theorem dX8_redo_31 : decode cX8_redo 31 = .ok (.aload_n 0, 1) := allD_get dtX8_redo 16 rfl
theorem dX8_redo_32 : decode cX8_redo 32 = .ok (.getfield 89, 3) := allD_get dtX8_redo 17 rfl
theorem dX8_redo_35 : decode cX8_redo 35 = .ok (.imul, 1) := allD_get dtX8_redo 18 rfl
theorem dX8_redo_36 : decode cX8_redo 36 = .ok (.aload_n 0, 1) := allD_get dtX8_redo 19 rfl
theorem dX8_redo_37 : decode cX8_redo 37 = .ok (.getfield 7, 3) := allD_get dtX8_redo 20 rfl
theorem dX8_redo_40 : decode cX8_redo 40 = .ok (.iconst 0, 1) := allD_get dtX8_redo 21 rfl
theorem dX8_redo_41 : decode cX8_redo 41 = .ok (.invokestatic 82, 3) := allD_get dtX8_redo 22 rfl
theorem dX8_redo_44 : decode cX8_redo 44 = .ok (.aload_n 0, 1) := allD_get dtX8_redo 23 rfl
theorem dX8_redo_45 : decode cX8_redo 45 = .ok (.getfield 89, 3) := allD_get dtX8_redo 24 rfl
theorem dX8_redo_48 : decode cX8_redo 48 = .ok (.ireturn, 1) := allD_get dtX8_redo 25 rfl
def tbX8_isLast : List (Nat × Instr × Nat) := [(0, .aload_n 0, 1), (1, .getfield 92, 3), (4, .ifCond .le 37, 3), (7, .aload_n 0, 1), (8, .getfield 23, 3), (11, .aload_n 0, 1), (12, .getfield 92, 3), (15, .iconst 1, 1), (16, .isub, 1), (17, .iaload, 1), (18, .iload_n 1, 1), (19, .if_icmp .ne 22, 3), (22, .aload_n 0, 1), (23, .getfield 26, 3), (26, .aload_n 0, 1), (27, .getfield 92, 3), (30, .iconst 1, 1), (31, .isub, 1), (32, .iaload, 1), (33, .iload_n 2, 1), (34, .if_icmp .ne 7, 3), (37, .iconst 1, 1), (38, .goto 4, 3), (41, .iconst 0, 1), (42, .ireturn, 1)]
set_option maxRecDepth 100000 in
theorem dtX8_isLast : allD cX8_isLast tbX8_isLast = true := by decide +kernel
theorem dX8_isLast_0 : decode cX8_isLast 0 = .ok (.aload_n 0, 1) := allD_get dtX8_isLast 0 rfl
theorem dX8_isLast_1 : decode cX8_isLast 1 = .ok (.getfield 92, 3) := allD_get dtX8_isLast 1 rfl
theorem dX8_isLast_4 : decode cX8_isLast 4 = .ok (.ifCond .le 37, 3) := allD_get dtX8_isLast 2 rfl
theorem dX8_isLast_7 : decode cX8_isLast 7 = .ok (.aload_n 0, 1) := allD_get dtX8_isLast 3 rfl
theorem dX8_isLast_8 : decode cX8_isLast 8 = .ok (.getfield 23, 3) := allD_get dtX8_isLast 4 rfl
theorem dX8_isLast_11 : decode cX8_isLast 11 = .ok (.aload_n 0, 1) := allD_get dtX8_isLast 5 rfl
theorem dX8_isLast_12 : decode cX8_isLast 12 = .ok (.getfield 92, 3) := allD_get dtX8_isLast 6 rfl
theorem dX8_isLast_15 : decode cX8_isLast 15 = .ok (.iconst 1, 1) := allD_get dtX8_isLast 7 rfl
theorem dX8_isLast_16 : decode cX8_isLast 16 = .ok (.isub, 1) := allD_get dtX8_isLast 8 rfl
theorem dX8_isLast_17 : decode cX8_isLast 17 = .ok (.iaload, 1) := allD_get dtX8_isLast 9 rfl
theorem dX8_isLast_18 : decode cX8_isLast 18 = .ok (.iload_n 1, 1) := allD_get dtX8_isLast 10 rfl
theorem dX8_isLast_19 : decode cX8_isLast 19 = .ok (.if_icmp .ne 22, 3) := allD_get dtX8_isLast 11 rfl
theorem dX8_isLast_22 : decode cX8_isLast 22 = .ok (.aload_n 0, 1) := allD_get dtX8_isLast 12 rfl
theorem dX8_isLast_23 : decode cX8_isLast 23 = .ok (.getfield 26, 3) := allD_get dtX8_isLast 13 rfl
theorem dX8_isLast_26 : decode cX8_isLast 26 = .ok (.aload_n 0, 1) := allD_get dtX8_isLast 14 rfl
theorem dX8_isLast_27 : decode cX8_isLast 27 = .ok (.getfield 92, 3) := allD_get dtX8_isLast 15 rfl
theorem dX8_isLast_30 : decode cX8_isLast 30 = .ok (.iconst 1, 1) := allD_get dtX8_isLast 16 rfl
theorem dX8_isLast_31 : decode cX8_isLast 31 = .ok (.isub, 1) := allD_get dtX8_isLast 17 rfl
theorem dX8_isLast_32 : decode cX8_isLast 32 = .ok (.iaload, 1) := allD_get dtX8_isLast 18 rfl
theorem dX8_isLast_33 : decode cX8_isLast 33 = .ok (.iload_n 2, 1) := allD_get dtX8_isLast 19 rfl
theorem dX8_isLast_34 : decode cX8_isLast 34 = .ok (.if_icmp .ne 7, 3) := allD_get dtX8_isLast 20 rfl
theorem dX8_isLast_37 : decode cX8_isLast 37 = .ok (.iconst 1, 1) := allD_get dtX8_isLast 21 rfl
theorem dX8_isLast_38 : decode cX8_isLast 38 = .ok (.goto 4, 3) := allD_get dtX8_isLast 22 rfl
theorem dX8_isLast_41 : decode cX8_isLast 41 = .ok (.iconst 0, 1) := allD_get dtX8_isLast 23 rfl
theorem dX8_isLast_42 : decode cX8_isLast 42 = .ok (.ireturn, 1) := allD_get dtX8_isLast 24 rfl
def tbX8_add : List (Nat × Instr × Nat) := [(0, .aload_n 0, 1), (1, .iload_n 1, 1), (2, .iload_n 2, 1), (3, .invokevirtual 95, 3), (6, .ifCond .ne 33, 3), (9, .aload_n 0, 1), (10, .getfield 23, 3), (13, .aload_n 0, 1), (14, .getfield 92, 3), (17, .iload_n 1, 1), (18, .iastore, 1), (19, .aload_n 0, 1), (20, .getfield 26, 3), (23, .aload_n 0, 1), (24, .getfield 92, 3), (27, .iload_n 2, 1), (28, .iastore, 1), (29, .aload_n 0, 1), (30, .dup, 1), (31, .getfield 92, 3), (34, .iconst 1, 1), (35, .iadd, 1), (36, .putfield 92, 3), (39, .return_, 1)]
set_option maxRecDepth 100000 in
theorem dtX8_add : allD cX8_add tbX8_add = true := by decide +kernel
theorem dX8_add_0 : decode cX8_add 0 = .ok (.aload_n 0, 1) := allD_get dtX8_add 0 rfl
theorem dX8_add_1 : decode cX8_add 1 = .ok (.iload_n 1, 1) := allD_get dtX8_add 1 rfl
theorem dX8_add_2 : decode cX8_add 2 = .ok (.iload_n 2, 1) := allD_get dtX8_add 2 rfl
theorem dX8_add_3 : decode cX8_add 3 = .ok (.invokevirtual 95, 3) := allD_get dtX8_add 3 rfl
theorem dX8_add_6 : decode cX8_add 6 = .ok (.ifCond .ne 33, 3) := allD_get dtX8_add 4 rfl
theorem dX8_add_9 : decode cX8_add 9 = .ok (.aload_n 0, 1) := allD_get dtX8_add 5 rfl
theorem dX8_add_10 : decode cX8_add 10 = .ok (.getfield 23, 3) := allD_get dtX8_add 6 rfl
theorem dX8_add_13 : decode cX8_add 13 = .ok (.aload_n 0, 1) := allD_get dtX8_add 7 rfl
theorem dX8_add_14 : decode cX8_add 14 = .ok (.getfield 92, 3) := allD_get dtX8_add 8 rfl
theorem dX8_add_17 : decode cX8_add 17 = .ok (.iload_n 1, 1) := allD_get dtX8_add 9 rfl
theorem dX8_add_18 : decode cX8_add 18 = .ok (.iastore, 1) := allD_get dtX8_add 10 rfl
theorem dX8_add_19 : decode cX8_add 19 = .ok (.aload_n 0, 1) := allD_get dtX8_add 11 rfl
theorem dX8_add_20 : decode cX8_add 20 = .ok (.getfield 26, 3) := allD_get dtX8_add 12 rfl
theorem dX8_add_23 : decode cX8_add 23 = .ok (.aload_n 0, 1) := allD_get dtX8_add 13 rfl
theorem dX8_add_24 : decode cX8_add 24 = .ok (.getfield 92, 3) := allD_get dtX8_add 14 rfl
theorem dX8_add_27 : decode cX8_add 27 = .ok (.iload_n 2, 1) := allD_get dtX8_add 15 rfl
theorem dX8_add_28 : decode cX8_add 28 = .ok (.iastore, 1) := allD_get dtX8_add 16 rfl
theorem dX8_add_29 : decode cX8_add 29 = .ok (.aload_n 0, 1) := allD_get dtX8_add 17 rfl
theorem dX8_add_30 : decode cX8_add 30 = .ok (.dup, 1) := allD_get dtX8_add 18 rfl
theorem dX8_add_31 : decode cX8_add 31 = .ok (.getfield 92, 3) := allD_get dtX8_add 19 rfl
theorem dX8_add_34 : decode cX8_add 34 = .ok (.iconst 1, 1) := allD_get dtX8_add 20 rfl
theorem dX8_add_35 : decode cX8_add 35 = .ok (.iadd, 1) := allD_get dtX8_add 21 rfl
theorem dX8_add_36 : decode cX8_add 36 = .ok (.putfield 92, 3) := allD_get dtX8_add 22 rfl
theorem dX8_add_39 : decode cX8_add 39 = .ok (.return_, 1) := allD_get dtX8_add 23 rfl
def tbX8_put : List (Nat × Instr × Nat) := [(0, .iload_n 1, 1), (1, .invokestatic 99, 3), (4, .ifCond .eq 10, 3), (7, .iload_n 2, 1), (8, .invokestatic 99, 3), (11, .ifCond .ne 6, 3), (14, .bipush (-2), 2), (16, .ireturn, 1), (17, .aload_n 0, 1), (18, .getfield 92, 3), (21, .bipush 24, 2), (23, .if_icmp .ne 6, 3), (26, .bipush (-3), 2), (28, .ireturn, 1), (29, .aload_n 0, 1), (30, .iload_n 1, 1), (31, .iload_n 2, 1), (32, .invokevirtual 103, 3), (35, .aload_n 0, 1), (36, .getfield 92, 3), (39, .ireturn, 1)]
set_option maxRecDepth 100000 in
theorem dtX8_put : allD cX8_put tbX8_put = true := by decide +kernel
theorem dX8_put_0 : decode cX8_put 0 = .ok (.iload_n 1, 1) := allD_get dtX8_put 0 rfl
theorem dX8_put_1 : decode cX8_put 1 = .ok (.invokestatic 99, 3) := allD_get dtX8_put 1 rfl
theorem dX8_put_4 : decode cX8_put 4 = .ok (.ifCond .eq 10, 3) := allD_get dtX8_put 2 rfl
theorem dX8_put_7 : decode cX8_put 7 = .ok (.iload_n 2, 1) := allD_get dtX8_put 3 rfl
theorem dX8_put_8 : decode cX8_put 8 = .ok (.invokestatic 99, 3) := allD_get dtX8_put 4 rfl
theorem dX8_put_11 : decode cX8_put 11 = .ok (.ifCond .ne 6, 3) := allD_get dtX8_put 5 rfl
theorem dX8_put_14 : decode cX8_put 14 = .ok (.bipush (-2), 2) := allD_get dtX8_put 6 rfl
theorem dX8_put_16 : decode cX8_put 16 = .ok (.ireturn, 1) := allD_get dtX8_put 7 rfl
theorem dX8_put_17 : decode cX8_put 17 = .ok (.aload_n 0, 1) := allD_get dtX8_put 8 rfl
theorem dX8_put_18 : decode cX8_put 18 = .ok (.getfield 92, 3) := allD_get dtX8_put 9 rfl
theorem dX8_put_21 : decode cX8_put 21 = .ok (.bipush 24, 2) := allD_get dtX8_put 10 rfl
theorem dX8_put_23 : decode cX8_put 23 = .ok (.if_icmp .ne 6, 3) := allD_get dtX8_put 11 rfl
theorem dX8_put_26 : decode cX8_put 26 = .ok (.bipush (-3), 2) := allD_get dtX8_put 12 rfl
theorem dX8_put_28 : decode cX8_put 28 = .ok (.ireturn, 1) := allD_get dtX8_put 13 rfl
theorem dX8_put_29 : decode cX8_put 29 = .ok (.aload_n 0, 1) := allD_get dtX8_put 14 rfl
theorem dX8_put_30 : decode cX8_put 30 = .ok (.iload_n 1, 1) := allD_get dtX8_put 15 rfl
theorem dX8_put_31 : decode cX8_put 31 = .ok (.iload_n 2, 1) := allD_get dtX8_put 16 rfl
theorem dX8_put_32 : decode cX8_put 32 = .ok (.invokevirtual 103, 3) := allD_get dtX8_put 17 rfl
theorem dX8_put_35 : decode cX8_put 35 = .ok (.aload_n 0, 1) := allD_get dtX8_put 18 rfl
theorem dX8_put_36 : decode cX8_put 36 = .ok (.getfield 92, 3) := allD_get dtX8_put 19 rfl
theorem dX8_put_39 : decode cX8_put 39 = .ok (.ireturn, 1) := allD_get dtX8_put 20 rfl
def tbX8_clearPoints : List (Nat × Instr × Nat) := [(0, .aload_n 0, 1), (1, .getfield 92, 3), (4, .istore_n 1, 1), (5, .aload_n 0, 1), (6, .iconst 0, 1), (7, .putfield 92, 3), (10, .iload_n 1, 1), (11, .ireturn, 1)]
set_option maxRecDepth 100000 in
theorem dtX8_clearPoints : allD cX8_clearPoints tbX8_clearPoints = true := by decide +kernel
theorem dX8_clearPoints_0 : decode cX8_clearPoints 0 = .ok (.aload_n 0, 1) := allD_get dtX8_clearPoints 0 rfl
theorem dX8_clearPoints_1 : decode cX8_clearPoints 1 = .ok (.getfield 92, 3) := allD_get dtX8_clearPoints 1 rfl
theorem dX8_clearPoints_4 : decode cX8_clearPoints 4 = .ok (.istore_n 1, 1) := allD_get dtX8_clearPoints 2 rfl
theorem dX8_clearPoints_5 : decode cX8_clearPoints 5 = .ok (.aload_n 0, 1) := allD_get dtX8_clearPoints 3 rfl
theorem dX8_clearPoints_6 : decode cX8_clearPoints 6 = .ok (.iconst 0, 1) := allD_get dtX8_clearPoints 4 rfl
theorem dX8_clearPoints_7 : decode cX8_clearPoints 7 = .ok (.putfield 92, 3) := allD_get dtX8_clearPoints 5 rfl
theorem dX8_clearPoints_10 : decode cX8_clearPoints 10 = .ok (.iload_n 1, 1) := allD_get dtX8_clearPoints 6 rfl
theorem dX8_clearPoints_11 : decode cX8_clearPoints 11 = .ok (.ireturn, 1) := allD_get dtX8_clearPoints 7 rfl
def tbX8_type : List (Nat × Instr × Nat) := [(0, .aload_n 0, 1), (1, .getfield 107, 3), (4, .bipush 100, 2), (6, .if_icmp .ne 6, 3), (9, .bipush (-3), 2), (11, .ireturn, 1), (12, .aload_n 0, 1), (13, .getfield 29, 3), (16, .aload_n 0, 1), (17, .getfield 107, 3), (20, .iload_n 1, 1), (21, .castore, 1), (22, .aload_n 0, 1), (23, .dup, 1), (24, .getfield 107, 3), (27, .iconst 1, 1), (28, .iadd, 1), (29, .putfield 107, 3), (32, .aload_n 0, 1), (33, .getfield 107, 3), (36, .ireturn, 1)]
set_option maxRecDepth 100000 in
theorem dtX8_type : allD cX8_type tbX8_type = true := by decide +kernel
theorem dX8_type_0 : decode cX8_type 0 = .ok (.aload_n 0, 1) := allD_get dtX8_type 0 rfl
theorem dX8_type_1 : decode cX8_type 1 = .ok (.getfield 107, 3) := allD_get dtX8_type 1 rfl
theorem dX8_type_4 : decode cX8_type 4 = .ok (.bipush 100, 2) := allD_get dtX8_type 2 rfl
theorem dX8_type_6 : decode cX8_type 6 = .ok (.if_icmp .ne 6, 3) := allD_get dtX8_type 3 rfl
theorem dX8_type_9 : decode cX8_type 9 = .ok (.bipush (-3), 2) := allD_get dtX8_type 4 rfl
theorem dX8_type_11 : decode cX8_type 11 = .ok (.ireturn, 1) := allD_get dtX8_type 5 rfl
theorem dX8_type_12 : decode cX8_type 12 = .ok (.aload_n 0, 1) := allD_get dtX8_type 6 rfl
theorem dX8_type_13 : decode cX8_type 13 = .ok (.getfield 29, 3) := allD_get dtX8_type 7 rfl
theorem dX8_type_16 : decode cX8_type 16 = .ok (.aload_n 0, 1) := allD_get dtX8_type 8 rfl
theorem dX8_type_17 : decode cX8_type 17 = .ok (.getfield 107, 3) := allD_get dtX8_type 9 rfl
theorem dX8_type_20 : decode cX8_type 20 = .ok (.iload_n 1, 1) := allD_get dtX8_type 10 rfl
theorem dX8_type_21 : decode cX8_type 21 = .ok (.castore, 1) := allD_get dtX8_type 11 rfl
theorem dX8_type_22 : decode cX8_type 22 = .ok (.aload_n 0, 1) := allD_get dtX8_type 12 rfl
theorem dX8_type_23 : decode cX8_type 23 = .ok (.dup, 1) := allD_get dtX8_type 13 rfl
theorem dX8_type_24 : decode cX8_type 24 = .ok (.getfield 107, 3) := allD_get dtX8_type 14 rfl
theorem dX8_type_27 : decode cX8_type 27 = .ok (.iconst 1, 1) := allD_get dtX8_type 15 rfl
theorem dX8_type_28 : decode cX8_type 28 = .ok (.iadd, 1) := allD_get dtX8_type 16 rfl
theorem dX8_type_29 : decode cX8_type 29 = .ok (.putfield 107, 3) := allD_get dtX8_type 17 rfl
theorem dX8_type_32 : decode cX8_type 32 = .ok (.aload_n 0, 1) := allD_get dtX8_type 18 rfl
theorem dX8_type_33 : decode cX8_type 33 = .ok (.getfield 107, 3) := allD_get dtX8_type 19 rfl
theorem dX8_type_36 : decode cX8_type 36 = .ok (.ireturn, 1) := allD_get dtX8_type 20 rfl
def tbX8_clearText : List (Nat × Instr × Nat) := [(0, .aload_n 0, 1), (1, .getfield 107, 3), (4, .istore_n 1, 1), (5, .aload_n 0, 1), (6, .iconst 0, 1), (7, .putfield 107, 3), (10, .iload_n 1, 1), (11, .ireturn, 1)]
set_option maxRecDepth 100000 in
theorem dtX8_clearText : allD cX8_clearText tbX8_clearText = true := by decide +kernel
theorem dX8_clearText_0 : decode cX8_clearText 0 = .ok (.aload_n 0, 1) := allD_get dtX8_clearText 0 rfl
theorem dX8_clearText_1 : decode cX8_clearText 1 = .ok (.getfield 107, 3) := allD_get dtX8_clearText 1 rfl
theorem dX8_clearText_4 : decode cX8_clearText 4 = .ok (.istore_n 1, 1) := allD_get dtX8_clearText 2 rfl
theorem dX8_clearText_5 : decode cX8_clearText 5 = .ok (.aload_n 0, 1) := allD_get dtX8_clearText 3 rfl
theorem dX8_clearText_6 : decode cX8_clearText 6 = .ok (.iconst 0, 1) := allD_get dtX8_clearText 4 rfl
theorem dX8_clearText_7 : decode cX8_clearText 7 = .ok (.putfield 107, 3) := allD_get dtX8_clearText 5 rfl
theorem dX8_clearText_10 : decode cX8_clearText 10 = .ok (.iload_n 1, 1) := allD_get dtX8_clearText 6 rfl
theorem dX8_clearText_11 : decode cX8_clearText 11 = .ok (.ireturn, 1) := allD_get dtX8_clearText 7 rfl
def tbX8_isAt : List (Nat × Instr × Nat) := [(0, .aload_n 0, 1), (1, .getfield 110, 3), (4, .aload_n 0, 1), (5, .getfield 107, 3), (8, .if_icmp .ge 33, 3), (11, .aload_n 0, 1), (12, .getfield 29, 3), (15, .aload_n 0, 1), (16, .getfield 110, 3), (19, .caload, 1), (20, .iload_n 1, 1), (21, .if_icmp .lt 20, 3), (24, .aload_n 0, 1), (25, .getfield 29, 3), (28, .aload_n 0, 1), (29, .getfield 110, 3), (32, .caload, 1), (33, .iload_n 2, 1), (34, .if_icmp .gt 7, 3), (37, .iconst 1, 1), (38, .goto 4, 3), (41, .iconst 0, 1), (42, .ireturn, 1)]
set_option maxRecDepth 100000 in
theorem dtX8_isAt : allD cX8_isAt tbX8_isAt = true := by decide +kernel
theorem dX8_isAt_0 : decode cX8_isAt 0 = .ok (.aload_n 0, 1) := allD_get dtX8_isAt 0 rfl
theorem dX8_isAt_1 : decode cX8_isAt 1 = .ok (.getfield 110, 3) := allD_get dtX8_isAt 1 rfl
theorem dX8_isAt_4 : decode cX8_isAt 4 = .ok (.aload_n 0, 1) := allD_get dtX8_isAt 2 rfl
theorem dX8_isAt_5 : decode cX8_isAt 5 = .ok (.getfield 107, 3) := allD_get dtX8_isAt 3 rfl
theorem dX8_isAt_8 : decode cX8_isAt 8 = .ok (.if_icmp .ge 33, 3) := allD_get dtX8_isAt 4 rfl
theorem dX8_isAt_11 : decode cX8_isAt 11 = .ok (.aload_n 0, 1) := allD_get dtX8_isAt 5 rfl
theorem dX8_isAt_12 : decode cX8_isAt 12 = .ok (.getfield 29, 3) := allD_get dtX8_isAt 6 rfl
theorem dX8_isAt_15 : decode cX8_isAt 15 = .ok (.aload_n 0, 1) := allD_get dtX8_isAt 7 rfl
theorem dX8_isAt_16 : decode cX8_isAt 16 = .ok (.getfield 110, 3) := allD_get dtX8_isAt 8 rfl
theorem dX8_isAt_19 : decode cX8_isAt 19 = .ok (.caload, 1) := allD_get dtX8_isAt 9 rfl
theorem dX8_isAt_20 : decode cX8_isAt 20 = .ok (.iload_n 1, 1) := allD_get dtX8_isAt 10 rfl
theorem dX8_isAt_21 : decode cX8_isAt 21 = .ok (.if_icmp .lt 20, 3) := allD_get dtX8_isAt 11 rfl
theorem dX8_isAt_24 : decode cX8_isAt 24 = .ok (.aload_n 0, 1) := allD_get dtX8_isAt 12 rfl
theorem dX8_isAt_25 : decode cX8_isAt 25 = .ok (.getfield 29, 3) := allD_get dtX8_isAt 13 rfl
theorem dX8_isAt_28 : decode cX8_isAt 28 = .ok (.aload_n 0, 1) := allD_get dtX8_isAt 14 rfl
theorem dX8_isAt_29 : decode cX8_isAt 29 = .ok (.getfield 110, 3) := allD_get dtX8_isAt 15 rfl
theorem dX8_isAt_32 : decode cX8_isAt 32 = .ok (.caload, 1) := allD_get dtX8_isAt 16 rfl
theorem dX8_isAt_33 : decode cX8_isAt 33 = .ok (.iload_n 2, 1) := allD_get dtX8_isAt 17 rfl
theorem dX8_isAt_34 : decode cX8_isAt 34 = .ok (.if_icmp .gt 7, 3) := allD_get dtX8_isAt 18 rfl
theorem dX8_isAt_37 : decode cX8_isAt 37 = .ok (.iconst 1, 1) := allD_get dtX8_isAt 19 rfl
theorem dX8_isAt_38 : decode cX8_isAt 38 = .ok (.goto 4, 3) := allD_get dtX8_isAt 20 rfl
theorem dX8_isAt_41 : decode cX8_isAt 41 = .ok (.iconst 0, 1) := allD_get dtX8_isAt 21 rfl
theorem dX8_isAt_42 : decode cX8_isAt 42 = .ok (.ireturn, 1) := allD_get dtX8_isAt 22 rfl
def tbX8_number : List (Nat × Instr × Nat) := [(0, .aload_n 0, 1), (1, .getfield 110, 3), (4, .istore_n 1, 1), (5, .iconst 0, 1), (6, .istore_n 2, 1), (7, .aload_n 0, 1), (8, .getfield 113, 3), (11, .ifCond .eq 55, 3), (14, .aload_n 0, 1), (15, .getfield 110, 3), (18, .iload_n 1, 1), (19, .iconst 4, 1), (20, .iadd, 1), (21, .if_icmp .ge 45, 3), (24, .aload_n 0, 1), (25, .bipush 48, 2), (27, .bipush 57, 2), (29, .invokevirtual 117, 3), (32, .ifCond .eq 34, 3), (35, .bipush 10, 2), (37, .iload_n 2, 1), (38, .imul, 1), (39, .aload_n 0, 1), (40, .getfield 29, 3), (43, .aload_n 0, 1), (44, .getfield 110, 3), (47, .caload, 1), (48, .iadd, 1), (49, .bipush 48, 2), (51, .isub, 1), (52, .istore_n 2, 1), (53, .aload_n 0, 1), (54, .dup, 1), (55, .getfield 110, 3), (58, .iconst 1, 1), (59, .iadd, 1), (60, .putfield 110, 3), (63, .goto (-56), 3), (66, .aload_n 0, 1), (67, .getfield 113, 3), (70, .ifCond .eq 30, 3), (73, .aload_n 0, 1), (74, .getfield 110, 3), (77, .iload_n 1, 1), (78, .if_icmp .eq 14, 3), (81, .aload_n 0, 1), (82, .bipush 48, 2), (84, .bipush 57, 2), (86, .invokevirtual 117, 3), (89, .ifCond .eq 11, 3), (92, .aload_n 0, 1), (93, .iconst 0, 1), (94, .putfield 113, 3), (97, .goto 27, 3), (100, .aload_n 0, 1), (101, .getfield 113, 3), (104, .ifCond .eq 20, 3), (107, .iload_n 2, 1), (108, .sipush 1000, 3), (111, .if_icmp .le 13, 3), (114, .aload_n 0, 1), (115, .iconst 0, 1), (116, .putfield 113, 3), (119, .aload_n 0, 1), (120, .iload_n 1, 1), (121, .putfield 110, 3), (124, .iload_n 2, 1), (125, .ireturn, 1)]
set_option maxRecDepth 100000 in
theorem dtX8_number : allD cX8_number tbX8_number = true := by decide +kernel
theorem dX8_number_0 : decode cX8_number 0 = .ok (.aload_n 0, 1) := allD_get dtX8_number 0 rfl
theorem dX8_number_1 : decode cX8_number 1 = .ok (.getfield 110, 3) := allD_get dtX8_number 1 rfl
theorem dX8_number_4 : decode cX8_number 4 = .ok (.istore_n 1, 1) := allD_get dtX8_number 2 rfl
theorem dX8_number_5 : decode cX8_number 5 = .ok (.iconst 0, 1) := allD_get dtX8_number 3 rfl
theorem dX8_number_6 : decode cX8_number 6 = .ok (.istore_n 2, 1) := allD_get dtX8_number 4 rfl
theorem dX8_number_7 : decode cX8_number 7 = .ok (.aload_n 0, 1) := allD_get dtX8_number 5 rfl
theorem dX8_number_8 : decode cX8_number 8 = .ok (.getfield 113, 3) := allD_get dtX8_number 6 rfl
theorem dX8_number_11 : decode cX8_number 11 = .ok (.ifCond .eq 55, 3) := allD_get dtX8_number 7 rfl
theorem dX8_number_14 : decode cX8_number 14 = .ok (.aload_n 0, 1) := allD_get dtX8_number 8 rfl
theorem dX8_number_15 : decode cX8_number 15 = .ok (.getfield 110, 3) := allD_get dtX8_number 9 rfl
theorem dX8_number_18 : decode cX8_number 18 = .ok (.iload_n 1, 1) := allD_get dtX8_number 10 rfl
theorem dX8_number_19 : decode cX8_number 19 = .ok (.iconst 4, 1) := allD_get dtX8_number 11 rfl
theorem dX8_number_20 : decode cX8_number 20 = .ok (.iadd, 1) := allD_get dtX8_number 12 rfl
theorem dX8_number_21 : decode cX8_number 21 = .ok (.if_icmp .ge 45, 3) := allD_get dtX8_number 13 rfl
theorem dX8_number_24 : decode cX8_number 24 = .ok (.aload_n 0, 1) := allD_get dtX8_number 14 rfl
theorem dX8_number_25 : decode cX8_number 25 = .ok (.bipush 48, 2) := allD_get dtX8_number 15 rfl
theorem dX8_number_27 : decode cX8_number 27 = .ok (.bipush 57, 2) := allD_get dtX8_number 16 rfl
theorem dX8_number_29 : decode cX8_number 29 = .ok (.invokevirtual 117, 3) := allD_get dtX8_number 17 rfl
theorem dX8_number_32 : decode cX8_number 32 = .ok (.ifCond .eq 34, 3) := allD_get dtX8_number 18 rfl
theorem dX8_number_35 : decode cX8_number 35 = .ok (.bipush 10, 2) := allD_get dtX8_number 19 rfl
theorem dX8_number_37 : decode cX8_number 37 = .ok (.iload_n 2, 1) := allD_get dtX8_number 20 rfl
theorem dX8_number_38 : decode cX8_number 38 = .ok (.imul, 1) := allD_get dtX8_number 21 rfl
theorem dX8_number_39 : decode cX8_number 39 = .ok (.aload_n 0, 1) := allD_get dtX8_number 22 rfl
theorem dX8_number_40 : decode cX8_number 40 = .ok (.getfield 29, 3) := allD_get dtX8_number 23 rfl
theorem dX8_number_43 : decode cX8_number 43 = .ok (.aload_n 0, 1) := allD_get dtX8_number 24 rfl
theorem dX8_number_44 : decode cX8_number 44 = .ok (.getfield 110, 3) := allD_get dtX8_number 25 rfl
theorem dX8_number_47 : decode cX8_number 47 = .ok (.caload, 1) := allD_get dtX8_number 26 rfl
theorem dX8_number_48 : decode cX8_number 48 = .ok (.iadd, 1) := allD_get dtX8_number 27 rfl
theorem dX8_number_49 : decode cX8_number 49 = .ok (.bipush 48, 2) := allD_get dtX8_number 28 rfl
theorem dX8_number_51 : decode cX8_number 51 = .ok (.isub, 1) := allD_get dtX8_number 29 rfl
theorem dX8_number_52 : decode cX8_number 52 = .ok (.istore_n 2, 1) := allD_get dtX8_number 30 rfl
theorem dX8_number_53 : decode cX8_number 53 = .ok (.aload_n 0, 1) := allD_get dtX8_number 31 rfl
theorem dX8_number_54 : decode cX8_number 54 = .ok (.dup, 1) := allD_get dtX8_number 32 rfl
theorem dX8_number_55 : decode cX8_number 55 = .ok (.getfield 110, 3) := allD_get dtX8_number 33 rfl
theorem dX8_number_58 : decode cX8_number 58 = .ok (.iconst 1, 1) := allD_get dtX8_number 34 rfl
theorem dX8_number_59 : decode cX8_number 59 = .ok (.iadd, 1) := allD_get dtX8_number 35 rfl
theorem dX8_number_60 : decode cX8_number 60 = .ok (.putfield 110, 3) := allD_get dtX8_number 36 rfl
theorem dX8_number_63 : decode cX8_number 63 = .ok (.goto (-56), 3) := allD_get dtX8_number 37 rfl
theorem dX8_number_66 : decode cX8_number 66 = .ok (.aload_n 0, 1) := allD_get dtX8_number 38 rfl
theorem dX8_number_67 : decode cX8_number 67 = .ok (.getfield 113, 3) := allD_get dtX8_number 39 rfl
theorem dX8_number_70 : decode cX8_number 70 = .ok (.ifCond .eq 30, 3) := allD_get dtX8_number 40 rfl
theorem dX8_number_73 : decode cX8_number 73 = .ok (.aload_n 0, 1) := allD_get dtX8_number 41 rfl
theorem dX8_number_74 : decode cX8_number 74 = .ok (.getfield 110, 3) := allD_get dtX8_number 42 rfl
theorem dX8_number_77 : decode cX8_number 77 = .ok (.iload_n 1, 1) := allD_get dtX8_number 43 rfl
theorem dX8_number_78 : decode cX8_number 78 = .ok (.if_icmp .eq 14, 3) := allD_get dtX8_number 44 rfl
theorem dX8_number_81 : decode cX8_number 81 = .ok (.aload_n 0, 1) := allD_get dtX8_number 45 rfl
theorem dX8_number_82 : decode cX8_number 82 = .ok (.bipush 48, 2) := allD_get dtX8_number 46 rfl
theorem dX8_number_84 : decode cX8_number 84 = .ok (.bipush 57, 2) := allD_get dtX8_number 47 rfl
theorem dX8_number_86 : decode cX8_number 86 = .ok (.invokevirtual 117, 3) := allD_get dtX8_number 48 rfl
theorem dX8_number_89 : decode cX8_number 89 = .ok (.ifCond .eq 11, 3) := allD_get dtX8_number 49 rfl
theorem dX8_number_92 : decode cX8_number 92 = .ok (.aload_n 0, 1) := allD_get dtX8_number 50 rfl
theorem dX8_number_93 : decode cX8_number 93 = .ok (.iconst 0, 1) := allD_get dtX8_number 51 rfl
theorem dX8_number_94 : decode cX8_number 94 = .ok (.putfield 113, 3) := allD_get dtX8_number 52 rfl
theorem dX8_number_97 : decode cX8_number 97 = .ok (.goto 27, 3) := allD_get dtX8_number 53 rfl
theorem dX8_number_100 : decode cX8_number 100 = .ok (.aload_n 0, 1) := allD_get dtX8_number 54 rfl
theorem dX8_number_101 : decode cX8_number 101 = .ok (.getfield 113, 3) := allD_get dtX8_number 55 rfl
theorem dX8_number_104 : decode cX8_number 104 = .ok (.ifCond .eq 20, 3) := allD_get dtX8_number 56 rfl
theorem dX8_number_107 : decode cX8_number 107 = .ok (.iload_n 2, 1) := allD_get dtX8_number 57 rfl
theorem dX8_number_108 : decode cX8_number 108 = .ok (.sipush 1000, 3) := allD_get dtX8_number 58 rfl
theorem dX8_number_111 : decode cX8_number 111 = .ok (.if_icmp .le 13, 3) := allD_get dtX8_number 59 rfl
theorem dX8_number_114 : decode cX8_number 114 = .ok (.aload_n 0, 1) := allD_get dtX8_number 60 rfl
theorem dX8_number_115 : decode cX8_number 115 = .ok (.iconst 0, 1) := allD_get dtX8_number 61 rfl
theorem dX8_number_116 : decode cX8_number 116 = .ok (.putfield 113, 3) := allD_get dtX8_number 62 rfl
theorem dX8_number_119 : decode cX8_number 119 = .ok (.aload_n 0, 1) := allD_get dtX8_number 63 rfl
theorem dX8_number_120 : decode cX8_number 120 = .ok (.iload_n 1, 1) := allD_get dtX8_number 64 rfl
theorem dX8_number_121 : decode cX8_number 121 = .ok (.putfield 110, 3) := allD_get dtX8_number 65 rfl
theorem dX8_number_124 : decode cX8_number 124 = .ok (.iload_n 2, 1) := allD_get dtX8_number 66 rfl
theorem dX8_number_125 : decode cX8_number 125 = .ok (.ireturn, 1) := allD_get dtX8_number 67 rfl
def tbX8_readPoint : List (Nat × Instr × Nat) := [(0, .aload_n 0, 1), (1, .invokevirtual 121, 3), (4, .istore_n 1, 1), (5, .aload_n 0, 1), (6, .getfield 113, 3), (9, .ifCond .eq 27, 3), (12, .aload_n 0, 1), (13, .bipush 44, 2), (15, .bipush 44, 2), (17, .invokevirtual 117, 3), (20, .ifCond .eq 16, 3), (23, .aload_n 0, 1), (24, .dup, 1), (25, .getfield 110, 3), (28, .iconst 1, 1), (29, .iadd, 1), (30, .putfield 110, 3), (33, .goto 8, 3), (36, .aload_n 0, 1), (37, .iconst 0, 1), (38, .putfield 113, 3), (41, .aload_n 0, 1), (42, .invokevirtual 121, 3), (45, .istore_n 2, 1), (46, .aload_n 0, 1), (47, .getfield 113, 3), (50, .ifCond .eq 33, 3), (53, .aload_n 0, 1), (54, .getfield 33, 3), (57, .aload_n 0, 1), (58, .getfield 125, 3), (61, .iload_n 1, 1), (62, .iastore, 1), (63, .aload_n 0, 1), (64, .getfield 36, 3), (67, .aload_n 0, 1), (68, .getfield 125, 3), (71, .iload_n 2, 1), (72, .iastore, 1), (73, .aload_n 0, 1), (74, .dup, 1), (75, .getfield 125, 3), (78, .iconst 1, 1), (79, .iadd, 1), (80, .putfield 125, 3), (83, .return_, 1)]
set_option maxRecDepth 100000 in
theorem dtX8_readPoint : allD cX8_readPoint tbX8_readPoint = true := by decide +kernel
theorem dX8_readPoint_0 : decode cX8_readPoint 0 = .ok (.aload_n 0, 1) := allD_get dtX8_readPoint 0 rfl
theorem dX8_readPoint_1 : decode cX8_readPoint 1 = .ok (.invokevirtual 121, 3) := allD_get dtX8_readPoint 1 rfl
theorem dX8_readPoint_4 : decode cX8_readPoint 4 = .ok (.istore_n 1, 1) := allD_get dtX8_readPoint 2 rfl
theorem dX8_readPoint_5 : decode cX8_readPoint 5 = .ok (.aload_n 0, 1) := allD_get dtX8_readPoint 3 rfl
theorem dX8_readPoint_6 : decode cX8_readPoint 6 = .ok (.getfield 113, 3) := allD_get dtX8_readPoint 4 rfl
theorem dX8_readPoint_9 : decode cX8_readPoint 9 = .ok (.ifCond .eq 27, 3) := allD_get dtX8_readPoint 5 rfl
theorem dX8_readPoint_12 : decode cX8_readPoint 12 = .ok (.aload_n 0, 1) := allD_get dtX8_readPoint 6 rfl
theorem dX8_readPoint_13 : decode cX8_readPoint 13 = .ok (.bipush 44, 2) := allD_get dtX8_readPoint 7 rfl
theorem dX8_readPoint_15 : decode cX8_readPoint 15 = .ok (.bipush 44, 2) := allD_get dtX8_readPoint 8 rfl
theorem dX8_readPoint_17 : decode cX8_readPoint 17 = .ok (.invokevirtual 117, 3) := allD_get dtX8_readPoint 9 rfl
theorem dX8_readPoint_20 : decode cX8_readPoint 20 = .ok (.ifCond .eq 16, 3) := allD_get dtX8_readPoint 10 rfl
theorem dX8_readPoint_23 : decode cX8_readPoint 23 = .ok (.aload_n 0, 1) := allD_get dtX8_readPoint 11 rfl
theorem dX8_readPoint_24 : decode cX8_readPoint 24 = .ok (.dup, 1) := allD_get dtX8_readPoint 12 rfl
theorem dX8_readPoint_25 : decode cX8_readPoint 25 = .ok (.getfield 110, 3) := allD_get dtX8_readPoint 13 rfl
theorem dX8_readPoint_28 : decode cX8_readPoint 28 = .ok (.iconst 1, 1) := allD_get dtX8_readPoint 14 rfl
theorem dX8_readPoint_29 : decode cX8_readPoint 29 = .ok (.iadd, 1) := allD_get dtX8_readPoint 15 rfl
theorem dX8_readPoint_30 : decode cX8_readPoint 30 = .ok (.putfield 110, 3) := allD_get dtX8_readPoint 16 rfl
theorem dX8_readPoint_33 : decode cX8_readPoint 33 = .ok (.goto 8, 3) := allD_get dtX8_readPoint 17 rfl
theorem dX8_readPoint_36 : decode cX8_readPoint 36 = .ok (.aload_n 0, 1) := allD_get dtX8_readPoint 18 rfl
theorem dX8_readPoint_37 : decode cX8_readPoint 37 = .ok (.iconst 0, 1) := allD_get dtX8_readPoint 19 rfl
theorem dX8_readPoint_38 : decode cX8_readPoint 38 = .ok (.putfield 113, 3) := allD_get dtX8_readPoint 20 rfl
theorem dX8_readPoint_41 : decode cX8_readPoint 41 = .ok (.aload_n 0, 1) := allD_get dtX8_readPoint 21 rfl
theorem dX8_readPoint_42 : decode cX8_readPoint 42 = .ok (.invokevirtual 121, 3) := allD_get dtX8_readPoint 22 rfl
theorem dX8_readPoint_45 : decode cX8_readPoint 45 = .ok (.istore_n 2, 1) := allD_get dtX8_readPoint 23 rfl
theorem dX8_readPoint_46 : decode cX8_readPoint 46 = .ok (.aload_n 0, 1) := allD_get dtX8_readPoint 24 rfl
theorem dX8_readPoint_47 : decode cX8_readPoint 47 = .ok (.getfield 113, 3) := allD_get dtX8_readPoint 25 rfl
theorem dX8_readPoint_50 : decode cX8_readPoint 50 = .ok (.ifCond .eq 33, 3) := allD_get dtX8_readPoint 26 rfl
theorem dX8_readPoint_53 : decode cX8_readPoint 53 = .ok (.aload_n 0, 1) := allD_get dtX8_readPoint 27 rfl
theorem dX8_readPoint_54 : decode cX8_readPoint 54 = .ok (.getfield 33, 3) := allD_get dtX8_readPoint 28 rfl
theorem dX8_readPoint_57 : decode cX8_readPoint 57 = .ok (.aload_n 0, 1) := allD_get dtX8_readPoint 29 rfl
theorem dX8_readPoint_58 : decode cX8_readPoint 58 = .ok (.getfield 125, 3) := allD_get dtX8_readPoint 30 rfl
theorem dX8_readPoint_61 : decode cX8_readPoint 61 = .ok (.iload_n 1, 1) := allD_get dtX8_readPoint 31 rfl
theorem dX8_readPoint_62 : decode cX8_readPoint 62 = .ok (.iastore, 1) := allD_get dtX8_readPoint 32 rfl
theorem dX8_readPoint_63 : decode cX8_readPoint 63 = .ok (.aload_n 0, 1) := allD_get dtX8_readPoint 33 rfl
theorem dX8_readPoint_64 : decode cX8_readPoint 64 = .ok (.getfield 36, 3) := allD_get dtX8_readPoint 34 rfl
theorem dX8_readPoint_67 : decode cX8_readPoint 67 = .ok (.aload_n 0, 1) := allD_get dtX8_readPoint 35 rfl
theorem dX8_readPoint_68 : decode cX8_readPoint 68 = .ok (.getfield 125, 3) := allD_get dtX8_readPoint 36 rfl
theorem dX8_readPoint_71 : decode cX8_readPoint 71 = .ok (.iload_n 2, 1) := allD_get dtX8_readPoint 37 rfl
theorem dX8_readPoint_72 : decode cX8_readPoint 72 = .ok (.iastore, 1) := allD_get dtX8_readPoint 38 rfl
theorem dX8_readPoint_73 : decode cX8_readPoint 73 = .ok (.aload_n 0, 1) := allD_get dtX8_readPoint 39 rfl
theorem dX8_readPoint_74 : decode cX8_readPoint 74 = .ok (.dup, 1) := allD_get dtX8_readPoint 40 rfl
theorem dX8_readPoint_75 : decode cX8_readPoint 75 = .ok (.getfield 125, 3) := allD_get dtX8_readPoint 41 rfl
theorem dX8_readPoint_78 : decode cX8_readPoint 78 = .ok (.iconst 1, 1) := allD_get dtX8_readPoint 42 rfl
theorem dX8_readPoint_79 : decode cX8_readPoint 79 = .ok (.iadd, 1) := allD_get dtX8_readPoint 43 rfl
theorem dX8_readPoint_80 : decode cX8_readPoint 80 = .ok (.putfield 125, 3) := allD_get dtX8_readPoint 44 rfl
theorem dX8_readPoint_83 : decode cX8_readPoint 83 = .ok (.return_, 1) := allD_get dtX8_readPoint 45 rfl
def tbX8_readPoints : List (Nat × Instr × Nat) := [(0, .aload_n 0, 1), (1, .iconst 0, 1), (2, .putfield 110, 3), (5, .aload_n 0, 1), (6, .iconst 1, 1), (7, .putfield 113, 3), (10, .aload_n 0, 1), (11, .iconst 0, 1), (12, .putfield 125, 3), (15, .aload_n 0, 1), (16, .invokevirtual 128, 3), (19, .aload_n 0, 1), (20, .getfield 113, 3), (23, .ifCond .eq 40, 3), (26, .aload_n 0, 1), (27, .getfield 125, 3), (30, .bipush 24, 2), (32, .if_icmp .ge 31, 3), (35, .aload_n 0, 1), (36, .bipush 32, 2), (38, .bipush 32, 2), (40, .invokevirtual 117, 3), (43, .ifCond .eq 20, 3), (46, .aload_n 0, 1), (47, .dup, 1), (48, .getfield 110, 3), (51, .iconst 1, 1), (52, .iadd, 1), (53, .putfield 110, 3), (56, .aload_n 0, 1), (57, .invokevirtual 128, 3), (60, .goto (-41), 3), (63, .aload_n 0, 1), (64, .getfield 113, 3), (67, .ifCond .eq 14, 3), (70, .aload_n 0, 1), (71, .getfield 110, 3), (74, .aload_n 0, 1), (75, .getfield 107, 3), (78, .if_icmp .ge 11, 3), (81, .bipush (-100), 2), (83, .aload_n 0, 1), (84, .getfield 110, 3), (87, .isub, 1), (88, .ireturn, 1), (89, .aload_n 0, 1), (90, .iconst 0, 1), (91, .putfield 92, 3), (94, .iconst 0, 1), (95, .istore_n 1, 1), (96, .iload_n 1, 1), (97, .aload_n 0, 1), (98, .getfield 125, 3), (101, .if_icmp .ge 25, 3), (104, .aload_n 0, 1), (105, .aload_n 0, 1), (106, .getfield 33, 3), (109, .iload_n 1, 1), (110, .iaload, 1), (111, .aload_n 0, 1), (112, .getfield 36, 3), (115, .iload_n 1, 1), (116, .iaload, 1), (117, .invokevirtual 103, 3), (120, .iinc 1 1, 3), (123, .goto (-27), 3), (126, .aload_n 0, 1), (127, .getfield 92, 3), (130, .ireturn, 1)]
set_option maxRecDepth 100000 in
theorem dtX8_readPoints : allD cX8_readPoints tbX8_readPoints = true := by decide +kernel
theorem dX8_readPoints_0 : decode cX8_readPoints 0 = .ok (.aload_n 0, 1) := allD_get dtX8_readPoints 0 rfl
theorem dX8_readPoints_1 : decode cX8_readPoints 1 = .ok (.iconst 0, 1) := allD_get dtX8_readPoints 1 rfl
theorem dX8_readPoints_2 : decode cX8_readPoints 2 = .ok (.putfield 110, 3) := allD_get dtX8_readPoints 2 rfl
theorem dX8_readPoints_5 : decode cX8_readPoints 5 = .ok (.aload_n 0, 1) := allD_get dtX8_readPoints 3 rfl
theorem dX8_readPoints_6 : decode cX8_readPoints 6 = .ok (.iconst 1, 1) := allD_get dtX8_readPoints 4 rfl
theorem dX8_readPoints_7 : decode cX8_readPoints 7 = .ok (.putfield 113, 3) := allD_get dtX8_readPoints 5 rfl
theorem dX8_readPoints_10 : decode cX8_readPoints 10 = .ok (.aload_n 0, 1) := allD_get dtX8_readPoints 6 rfl
theorem dX8_readPoints_11 : decode cX8_readPoints 11 = .ok (.iconst 0, 1) := allD_get dtX8_readPoints 7 rfl
theorem dX8_readPoints_12 : decode cX8_readPoints 12 = .ok (.putfield 125, 3) := allD_get dtX8_readPoints 8 rfl
theorem dX8_readPoints_15 : decode cX8_readPoints 15 = .ok (.aload_n 0, 1) := allD_get dtX8_readPoints 9 rfl
theorem dX8_readPoints_16 : decode cX8_readPoints 16 = .ok (.invokevirtual 128, 3) := allD_get dtX8_readPoints 10 rfl
theorem dX8_readPoints_19 : decode cX8_readPoints 19 = .ok (.aload_n 0, 1) := allD_get dtX8_readPoints 11 rfl
theorem dX8_readPoints_20 : decode cX8_readPoints 20 = .ok (.getfield 113, 3) := allD_get dtX8_readPoints 12 rfl
theorem dX8_readPoints_23 : decode cX8_readPoints 23 = .ok (.ifCond .eq 40, 3) := allD_get dtX8_readPoints 13 rfl
theorem dX8_readPoints_26 : decode cX8_readPoints 26 = .ok (.aload_n 0, 1) := allD_get dtX8_readPoints 14 rfl
theorem dX8_readPoints_27 : decode cX8_readPoints 27 = .ok (.getfield 125, 3) := allD_get dtX8_readPoints 15 rfl
theorem dX8_readPoints_30 : decode cX8_readPoints 30 = .ok (.bipush 24, 2) := allD_get dtX8_readPoints 16 rfl
theorem dX8_readPoints_32 : decode cX8_readPoints 32 = .ok (.if_icmp .ge 31, 3) := allD_get dtX8_readPoints 17 rfl
theorem dX8_readPoints_35 : decode cX8_readPoints 35 = .ok (.aload_n 0, 1) := allD_get dtX8_readPoints 18 rfl
theorem dX8_readPoints_36 : decode cX8_readPoints 36 = .ok (.bipush 32, 2) := allD_get dtX8_readPoints 19 rfl
theorem dX8_readPoints_38 : decode cX8_readPoints 38 = .ok (.bipush 32, 2) := allD_get dtX8_readPoints 20 rfl
theorem dX8_readPoints_40 : decode cX8_readPoints 40 = .ok (.invokevirtual 117, 3) := allD_get dtX8_readPoints 21 rfl
theorem dX8_readPoints_43 : decode cX8_readPoints 43 = .ok (.ifCond .eq 20, 3) := allD_get dtX8_readPoints 22 rfl
theorem dX8_readPoints_46 : decode cX8_readPoints 46 = .ok (.aload_n 0, 1) := allD_get dtX8_readPoints 23 rfl
theorem dX8_readPoints_47 : decode cX8_readPoints 47 = .ok (.dup, 1) := allD_get dtX8_readPoints 24 rfl
theorem dX8_readPoints_48 : decode cX8_readPoints 48 = .ok (.getfield 110, 3) := allD_get dtX8_readPoints 25 rfl
theorem dX8_readPoints_51 : decode cX8_readPoints 51 = .ok (.iconst 1, 1) := allD_get dtX8_readPoints 26 rfl
theorem dX8_readPoints_52 : decode cX8_readPoints 52 = .ok (.iadd, 1) := allD_get dtX8_readPoints 27 rfl
theorem dX8_readPoints_53 : decode cX8_readPoints 53 = .ok (.putfield 110, 3) := allD_get dtX8_readPoints 28 rfl
theorem dX8_readPoints_56 : decode cX8_readPoints 56 = .ok (.aload_n 0, 1) := allD_get dtX8_readPoints 29 rfl
theorem dX8_readPoints_57 : decode cX8_readPoints 57 = .ok (.invokevirtual 128, 3) := allD_get dtX8_readPoints 30 rfl
theorem dX8_readPoints_60 : decode cX8_readPoints 60 = .ok (.goto (-41), 3) := allD_get dtX8_readPoints 31 rfl
theorem dX8_readPoints_63 : decode cX8_readPoints 63 = .ok (.aload_n 0, 1) := allD_get dtX8_readPoints 32 rfl
theorem dX8_readPoints_64 : decode cX8_readPoints 64 = .ok (.getfield 113, 3) := allD_get dtX8_readPoints 33 rfl
theorem dX8_readPoints_67 : decode cX8_readPoints 67 = .ok (.ifCond .eq 14, 3) := allD_get dtX8_readPoints 34 rfl
theorem dX8_readPoints_70 : decode cX8_readPoints 70 = .ok (.aload_n 0, 1) := allD_get dtX8_readPoints 35 rfl
theorem dX8_readPoints_71 : decode cX8_readPoints 71 = .ok (.getfield 110, 3) := allD_get dtX8_readPoints 36 rfl
theorem dX8_readPoints_74 : decode cX8_readPoints 74 = .ok (.aload_n 0, 1) := allD_get dtX8_readPoints 37 rfl
theorem dX8_readPoints_75 : decode cX8_readPoints 75 = .ok (.getfield 107, 3) := allD_get dtX8_readPoints 38 rfl
theorem dX8_readPoints_78 : decode cX8_readPoints 78 = .ok (.if_icmp .ge 11, 3) := allD_get dtX8_readPoints 39 rfl
theorem dX8_readPoints_81 : decode cX8_readPoints 81 = .ok (.bipush (-100), 2) := allD_get dtX8_readPoints 40 rfl
theorem dX8_readPoints_83 : decode cX8_readPoints 83 = .ok (.aload_n 0, 1) := allD_get dtX8_readPoints 41 rfl
theorem dX8_readPoints_84 : decode cX8_readPoints 84 = .ok (.getfield 110, 3) := allD_get dtX8_readPoints 42 rfl
theorem dX8_readPoints_87 : decode cX8_readPoints 87 = .ok (.isub, 1) := allD_get dtX8_readPoints 43 rfl
theorem dX8_readPoints_88 : decode cX8_readPoints 88 = .ok (.ireturn, 1) := allD_get dtX8_readPoints 44 rfl
theorem dX8_readPoints_89 : decode cX8_readPoints 89 = .ok (.aload_n 0, 1) := allD_get dtX8_readPoints 45 rfl
theorem dX8_readPoints_90 : decode cX8_readPoints 90 = .ok (.iconst 0, 1) := allD_get dtX8_readPoints 46 rfl
theorem dX8_readPoints_91 : decode cX8_readPoints 91 = .ok (.putfield 92, 3) := allD_get dtX8_readPoints 47 rfl
theorem dX8_readPoints_94 : decode cX8_readPoints 94 = .ok (.iconst 0, 1) := allD_get dtX8_readPoints 48 rfl
theorem dX8_readPoints_95 : decode cX8_readPoints 95 = .ok (.istore_n 1, 1) := allD_get dtX8_readPoints 49 rfl
theorem dX8_readPoints_96 : decode cX8_readPoints 96 = .ok (.iload_n 1, 1) := allD_get dtX8_readPoints 50 rfl
theorem dX8_readPoints_97 : decode cX8_readPoints 97 = .ok (.aload_n 0, 1) := allD_get dtX8_readPoints 51 rfl
theorem dX8_readPoints_98 : decode cX8_readPoints 98 = .ok (.getfield 125, 3) := allD_get dtX8_readPoints 52 rfl
theorem dX8_readPoints_101 : decode cX8_readPoints 101 = .ok (.if_icmp .ge 25, 3) := allD_get dtX8_readPoints 53 rfl
theorem dX8_readPoints_104 : decode cX8_readPoints 104 = .ok (.aload_n 0, 1) := allD_get dtX8_readPoints 54 rfl
theorem dX8_readPoints_105 : decode cX8_readPoints 105 = .ok (.aload_n 0, 1) := allD_get dtX8_readPoints 55 rfl
theorem dX8_readPoints_106 : decode cX8_readPoints 106 = .ok (.getfield 33, 3) := allD_get dtX8_readPoints 56 rfl
theorem dX8_readPoints_109 : decode cX8_readPoints 109 = .ok (.iload_n 1, 1) := allD_get dtX8_readPoints 57 rfl
theorem dX8_readPoints_110 : decode cX8_readPoints 110 = .ok (.iaload, 1) := allD_get dtX8_readPoints 58 rfl
theorem dX8_readPoints_111 : decode cX8_readPoints 111 = .ok (.aload_n 0, 1) := allD_get dtX8_readPoints 59 rfl
theorem dX8_readPoints_112 : decode cX8_readPoints 112 = .ok (.getfield 36, 3) := allD_get dtX8_readPoints 60 rfl
theorem dX8_readPoints_115 : decode cX8_readPoints 115 = .ok (.iload_n 1, 1) := allD_get dtX8_readPoints 61 rfl
theorem dX8_readPoints_116 : decode cX8_readPoints 116 = .ok (.iaload, 1) := allD_get dtX8_readPoints 62 rfl
theorem dX8_readPoints_117 : decode cX8_readPoints 117 = .ok (.invokevirtual 103, 3) := allD_get dtX8_readPoints 63 rfl
theorem dX8_readPoints_120 : decode cX8_readPoints 120 = .ok (.iinc 1 1, 3) := allD_get dtX8_readPoints 64 rfl
theorem dX8_readPoints_123 : decode cX8_readPoints 123 = .ok (.goto (-27), 3) := allD_get dtX8_readPoints 65 rfl
theorem dX8_readPoints_126 : decode cX8_readPoints 126 = .ok (.aload_n 0, 1) := allD_get dtX8_readPoints 66 rfl
theorem dX8_readPoints_127 : decode cX8_readPoints 127 = .ok (.getfield 92, 3) := allD_get dtX8_readPoints 67 rfl
theorem dX8_readPoints_130 : decode cX8_readPoints 130 = .ok (.ireturn, 1) := allD_get dtX8_readPoints 68 rfl
def tbX8_begin : List (Nat × Instr × Nat) := [(0, .aload_n 0, 1), (1, .getfield 39, 3), (4, .iconst 0, 1), (5, .iconst 0, 1), (6, .iastore, 1), (7, .return_, 1)]
set_option maxRecDepth 100000 in
theorem dtX8_begin : allD cX8_begin tbX8_begin = true := by decide +kernel
theorem dX8_begin_0 : decode cX8_begin 0 = .ok (.aload_n 0, 1) := allD_get dtX8_begin 0 rfl
theorem dX8_begin_1 : decode cX8_begin 1 = .ok (.getfield 39, 3) := allD_get dtX8_begin 1 rfl
theorem dX8_begin_4 : decode cX8_begin 4 = .ok (.iconst 0, 1) := allD_get dtX8_begin 2 rfl
theorem dX8_begin_5 : decode cX8_begin 5 = .ok (.iconst 0, 1) := allD_get dtX8_begin 3 rfl
theorem dX8_begin_6 : decode cX8_begin 6 = .ok (.iastore, 1) := allD_get dtX8_begin 4 rfl
theorem dX8_begin_7 : decode cX8_begin 7 = .ok (.return_, 1) := allD_get dtX8_begin 5 rfl
def tbX8_addStroke : List (Nat × Instr × Nat) := [(0, .aload_n 0, 1), (1, .getfield 39, 3), (4, .iconst 0, 1), (5, .iaload, 1), (6, .istore_n 2, 1), (7, .iload_n 2, 1), (8, .bipush 16, 2), (10, .if_icmp .ge 22, 3), (13, .aload_n 0, 1), (14, .getfield 39, 3), (17, .iconst 1, 1), (18, .iload_n 2, 1), (19, .iadd, 1), (20, .iconst 0, 1), (21, .iastore, 1), (22, .aload_n 0, 1), (23, .getfield 39, 3), (26, .bipush 17, 2), (28, .iload_n 2, 1), (29, .iadd, 1), (30, .iload_n 1, 1), (31, .iastore, 1), (32, .aload_n 0, 1), (33, .getfield 39, 3), (36, .iconst 0, 1), (37, .dup2, 1), (38, .iaload, 1), (39, .iconst 1, 1), (40, .iadd, 1), (41, .iastore, 1), (42, .return_, 1)]
set_option maxRecDepth 100000 in
theorem dtX8_addStroke : allD cX8_addStroke tbX8_addStroke = true := by decide +kernel
theorem dX8_addStroke_0 : decode cX8_addStroke 0 = .ok (.aload_n 0, 1) := allD_get dtX8_addStroke 0 rfl
theorem dX8_addStroke_1 : decode cX8_addStroke 1 = .ok (.getfield 39, 3) := allD_get dtX8_addStroke 1 rfl
theorem dX8_addStroke_4 : decode cX8_addStroke 4 = .ok (.iconst 0, 1) := allD_get dtX8_addStroke 2 rfl
theorem dX8_addStroke_5 : decode cX8_addStroke 5 = .ok (.iaload, 1) := allD_get dtX8_addStroke 3 rfl
theorem dX8_addStroke_6 : decode cX8_addStroke 6 = .ok (.istore_n 2, 1) := allD_get dtX8_addStroke 4 rfl
theorem dX8_addStroke_7 : decode cX8_addStroke 7 = .ok (.iload_n 2, 1) := allD_get dtX8_addStroke 5 rfl
theorem dX8_addStroke_8 : decode cX8_addStroke 8 = .ok (.bipush 16, 2) := allD_get dtX8_addStroke 6 rfl
theorem dX8_addStroke_10 : decode cX8_addStroke 10 = .ok (.if_icmp .ge 22, 3) := allD_get dtX8_addStroke 7 rfl
theorem dX8_addStroke_13 : decode cX8_addStroke 13 = .ok (.aload_n 0, 1) := allD_get dtX8_addStroke 8 rfl
theorem dX8_addStroke_14 : decode cX8_addStroke 14 = .ok (.getfield 39, 3) := allD_get dtX8_addStroke 9 rfl
theorem dX8_addStroke_17 : decode cX8_addStroke 17 = .ok (.iconst 1, 1) := allD_get dtX8_addStroke 10 rfl
theorem dX8_addStroke_18 : decode cX8_addStroke 18 = .ok (.iload_n 2, 1) := allD_get dtX8_addStroke 11 rfl
theorem dX8_addStroke_19 : decode cX8_addStroke 19 = .ok (.iadd, 1) := allD_get dtX8_addStroke 12 rfl
theorem dX8_addStroke_20 : decode cX8_addStroke 20 = .ok (.iconst 0, 1) := allD_get dtX8_addStroke 13 rfl
theorem dX8_addStroke_21 : decode cX8_addStroke 21 = .ok (.iastore, 1) := allD_get dtX8_addStroke 14 rfl
theorem dX8_addStroke_22 : decode cX8_addStroke 22 = .ok (.aload_n 0, 1) := allD_get dtX8_addStroke 15 rfl
theorem dX8_addStroke_23 : decode cX8_addStroke 23 = .ok (.getfield 39, 3) := allD_get dtX8_addStroke 16 rfl
theorem dX8_addStroke_26 : decode cX8_addStroke 26 = .ok (.bipush 17, 2) := allD_get dtX8_addStroke 17 rfl
theorem dX8_addStroke_28 : decode cX8_addStroke 28 = .ok (.iload_n 2, 1) := allD_get dtX8_addStroke 18 rfl
theorem dX8_addStroke_29 : decode cX8_addStroke 29 = .ok (.iadd, 1) := allD_get dtX8_addStroke 19 rfl
theorem dX8_addStroke_30 : decode cX8_addStroke 30 = .ok (.iload_n 1, 1) := allD_get dtX8_addStroke 20 rfl
theorem dX8_addStroke_31 : decode cX8_addStroke 31 = .ok (.iastore, 1) := allD_get dtX8_addStroke 21 rfl
theorem dX8_addStroke_32 : decode cX8_addStroke 32 = .ok (.aload_n 0, 1) := allD_get dtX8_addStroke 22 rfl
theorem dX8_addStroke_33 : decode cX8_addStroke 33 = .ok (.getfield 39, 3) := allD_get dtX8_addStroke 23 rfl
theorem dX8_addStroke_36 : decode cX8_addStroke 36 = .ok (.iconst 0, 1) := allD_get dtX8_addStroke 24 rfl
theorem dX8_addStroke_37 : decode cX8_addStroke 37 = .ok (.dup2, 1) := allD_get dtX8_addStroke 25 rfl
theorem dX8_addStroke_38 : decode cX8_addStroke 38 = .ok (.iaload, 1) := allD_get dtX8_addStroke 26 rfl
theorem dX8_addStroke_39 : decode cX8_addStroke 39 = .ok (.iconst 1, 1) := allD_get dtX8_addStroke 27 rfl
theorem dX8_addStroke_40 : decode cX8_addStroke 40 = .ok (.iadd, 1) := allD_get dtX8_addStroke 28 rfl
theorem dX8_addStroke_41 : decode cX8_addStroke 41 = .ok (.iastore, 1) := allD_get dtX8_addStroke 29 rfl
theorem dX8_addStroke_42 : decode cX8_addStroke 42 = .ok (.return_, 1) := allD_get dtX8_addStroke 30 rfl
def tbX8_addPoint : List (Nat × Instr × Nat) := [(0, .aload_n 0, 1), (1, .getfield 39, 3), (4, .iconst 0, 1), (5, .iaload, 1), (6, .iconst 1, 1), (7, .isub, 1), (8, .istore_n 3, 1), (9, .iload_n 3, 1), (10, .bipush 16, 2), (12, .if_icmp .ge 60, 3), (15, .aload_n 0, 1), (16, .getfield 39, 3), (19, .bipush 33, 2), (21, .bipush 24, 2), (23, .iload_n 3, 1), (24, .imul, 1), (25, .iadd, 1), (26, .aload_n 0, 1), (27, .getfield 39, 3), (30, .iconst 1, 1), (31, .iload_n 3, 1), (32, .iadd, 1), (33, .iaload, 1), (34, .iadd, 1), (35, .iload_n 1, 1), (36, .iastore, 1), (37, .aload_n 0, 1), (38, .getfield 39, 3), (41, .sipush 417, 3), (44, .bipush 24, 2), (46, .iload_n 3, 1), (47, .imul, 1), (48, .iadd, 1), (49, .aload_n 0, 1), (50, .getfield 39, 3), (53, .iconst 1, 1), (54, .iload_n 3, 1), (55, .iadd, 1), (56, .iaload, 1), (57, .iadd, 1), (58, .iload_n 2, 1), (59, .iastore, 1), (60, .aload_n 0, 1), (61, .getfield 39, 3), (64, .iconst 1, 1), (65, .iload_n 3, 1), (66, .iadd, 1), (67, .dup2, 1), (68, .iaload, 1), (69, .iconst 1, 1), (70, .iadd, 1), (71, .iastore, 1), (72, .return_, 1)]
set_option maxRecDepth 100000 in
theorem dtX8_addPoint : allD cX8_addPoint tbX8_addPoint = true := by decide +kernel
theorem dX8_addPoint_0 : decode cX8_addPoint 0 = .ok (.aload_n 0, 1) := allD_get dtX8_addPoint 0 rfl
theorem dX8_addPoint_1 : decode cX8_addPoint 1 = .ok (.getfield 39, 3) := allD_get dtX8_addPoint 1 rfl
theorem dX8_addPoint_4 : decode cX8_addPoint 4 = .ok (.iconst 0, 1) := allD_get dtX8_addPoint 2 rfl
theorem dX8_addPoint_5 : decode cX8_addPoint 5 = .ok (.iaload, 1) := allD_get dtX8_addPoint 3 rfl
theorem dX8_addPoint_6 : decode cX8_addPoint 6 = .ok (.iconst 1, 1) := allD_get dtX8_addPoint 4 rfl
theorem dX8_addPoint_7 : decode cX8_addPoint 7 = .ok (.isub, 1) := allD_get dtX8_addPoint 5 rfl
theorem dX8_addPoint_8 : decode cX8_addPoint 8 = .ok (.istore_n 3, 1) := allD_get dtX8_addPoint 6 rfl
theorem dX8_addPoint_9 : decode cX8_addPoint 9 = .ok (.iload_n 3, 1) := allD_get dtX8_addPoint 7 rfl
theorem dX8_addPoint_10 : decode cX8_addPoint 10 = .ok (.bipush 16, 2) := allD_get dtX8_addPoint 8 rfl
theorem dX8_addPoint_12 : decode cX8_addPoint 12 = .ok (.if_icmp .ge 60, 3) := allD_get dtX8_addPoint 9 rfl
theorem dX8_addPoint_15 : decode cX8_addPoint 15 = .ok (.aload_n 0, 1) := allD_get dtX8_addPoint 10 rfl
theorem dX8_addPoint_16 : decode cX8_addPoint 16 = .ok (.getfield 39, 3) := allD_get dtX8_addPoint 11 rfl
theorem dX8_addPoint_19 : decode cX8_addPoint 19 = .ok (.bipush 33, 2) := allD_get dtX8_addPoint 12 rfl
theorem dX8_addPoint_21 : decode cX8_addPoint 21 = .ok (.bipush 24, 2) := allD_get dtX8_addPoint 13 rfl
theorem dX8_addPoint_23 : decode cX8_addPoint 23 = .ok (.iload_n 3, 1) := allD_get dtX8_addPoint 14 rfl
theorem dX8_addPoint_24 : decode cX8_addPoint 24 = .ok (.imul, 1) := allD_get dtX8_addPoint 15 rfl
theorem dX8_addPoint_25 : decode cX8_addPoint 25 = .ok (.iadd, 1) := allD_get dtX8_addPoint 16 rfl
theorem dX8_addPoint_26 : decode cX8_addPoint 26 = .ok (.aload_n 0, 1) := allD_get dtX8_addPoint 17 rfl
theorem dX8_addPoint_27 : decode cX8_addPoint 27 = .ok (.getfield 39, 3) := allD_get dtX8_addPoint 18 rfl
theorem dX8_addPoint_30 : decode cX8_addPoint 30 = .ok (.iconst 1, 1) := allD_get dtX8_addPoint 19 rfl
theorem dX8_addPoint_31 : decode cX8_addPoint 31 = .ok (.iload_n 3, 1) := allD_get dtX8_addPoint 20 rfl
theorem dX8_addPoint_32 : decode cX8_addPoint 32 = .ok (.iadd, 1) := allD_get dtX8_addPoint 21 rfl
theorem dX8_addPoint_33 : decode cX8_addPoint 33 = .ok (.iaload, 1) := allD_get dtX8_addPoint 22 rfl
theorem dX8_addPoint_34 : decode cX8_addPoint 34 = .ok (.iadd, 1) := allD_get dtX8_addPoint 23 rfl
theorem dX8_addPoint_35 : decode cX8_addPoint 35 = .ok (.iload_n 1, 1) := allD_get dtX8_addPoint 24 rfl
theorem dX8_addPoint_36 : decode cX8_addPoint 36 = .ok (.iastore, 1) := allD_get dtX8_addPoint 25 rfl
theorem dX8_addPoint_37 : decode cX8_addPoint 37 = .ok (.aload_n 0, 1) := allD_get dtX8_addPoint 26 rfl
theorem dX8_addPoint_38 : decode cX8_addPoint 38 = .ok (.getfield 39, 3) := allD_get dtX8_addPoint 27 rfl
theorem dX8_addPoint_41 : decode cX8_addPoint 41 = .ok (.sipush 417, 3) := allD_get dtX8_addPoint 28 rfl
theorem dX8_addPoint_44 : decode cX8_addPoint 44 = .ok (.bipush 24, 2) := allD_get dtX8_addPoint 29 rfl
theorem dX8_addPoint_46 : decode cX8_addPoint 46 = .ok (.iload_n 3, 1) := allD_get dtX8_addPoint 30 rfl
theorem dX8_addPoint_47 : decode cX8_addPoint 47 = .ok (.imul, 1) := allD_get dtX8_addPoint 31 rfl
theorem dX8_addPoint_48 : decode cX8_addPoint 48 = .ok (.iadd, 1) := allD_get dtX8_addPoint 32 rfl
theorem dX8_addPoint_49 : decode cX8_addPoint 49 = .ok (.aload_n 0, 1) := allD_get dtX8_addPoint 33 rfl
theorem dX8_addPoint_50 : decode cX8_addPoint 50 = .ok (.getfield 39, 3) := allD_get dtX8_addPoint 34 rfl
theorem dX8_addPoint_53 : decode cX8_addPoint 53 = .ok (.iconst 1, 1) := allD_get dtX8_addPoint 35 rfl
theorem dX8_addPoint_54 : decode cX8_addPoint 54 = .ok (.iload_n 3, 1) := allD_get dtX8_addPoint 36 rfl
theorem dX8_addPoint_55 : decode cX8_addPoint 55 = .ok (.iadd, 1) := allD_get dtX8_addPoint 37 rfl
theorem dX8_addPoint_56 : decode cX8_addPoint 56 = .ok (.iaload, 1) := allD_get dtX8_addPoint 38 rfl
theorem dX8_addPoint_57 : decode cX8_addPoint 57 = .ok (.iadd, 1) := allD_get dtX8_addPoint 39 rfl
theorem dX8_addPoint_58 : decode cX8_addPoint 58 = .ok (.iload_n 2, 1) := allD_get dtX8_addPoint 40 rfl
theorem dX8_addPoint_59 : decode cX8_addPoint 59 = .ok (.iastore, 1) := allD_get dtX8_addPoint 41 rfl
theorem dX8_addPoint_60 : decode cX8_addPoint 60 = .ok (.aload_n 0, 1) := allD_get dtX8_addPoint 42 rfl
theorem dX8_addPoint_61 : decode cX8_addPoint 61 = .ok (.getfield 39, 3) := allD_get dtX8_addPoint 43 rfl
theorem dX8_addPoint_64 : decode cX8_addPoint 64 = .ok (.iconst 1, 1) := allD_get dtX8_addPoint 44 rfl
theorem dX8_addPoint_65 : decode cX8_addPoint 65 = .ok (.iload_n 3, 1) := allD_get dtX8_addPoint 45 rfl
theorem dX8_addPoint_66 : decode cX8_addPoint 66 = .ok (.iadd, 1) := allD_get dtX8_addPoint 46 rfl
theorem dX8_addPoint_67 : decode cX8_addPoint 67 = .ok (.dup2, 1) := allD_get dtX8_addPoint 47 rfl
theorem dX8_addPoint_68 : decode cX8_addPoint 68 = .ok (.iaload, 1) := allD_get dtX8_addPoint 48 rfl
theorem dX8_addPoint_69 : decode cX8_addPoint 69 = .ok (.iconst 1, 1) := allD_get dtX8_addPoint 49 rfl
theorem dX8_addPoint_70 : decode cX8_addPoint 70 = .ok (.iadd, 1) := allD_get dtX8_addPoint 50 rfl
theorem dX8_addPoint_71 : decode cX8_addPoint 71 = .ok (.iastore, 1) := allD_get dtX8_addPoint 51 rfl
theorem dX8_addPoint_72 : decode cX8_addPoint 72 = .ok (.return_, 1) := allD_get dtX8_addPoint 52 rfl
def tbX8_copyStroke : List (Nat × Instr × Nat) := [(0, .aload_n 0, 1), (1, .aload_n 0, 1), (2, .getfield 7, 3), (5, .bipush 17, 2), (7, .iload_n 1, 1), (8, .iadd, 1), (9, .iaload, 1), (10, .invokevirtual 131, 3), (13, .iconst 0, 1), (14, .istore_n 2, 1), (15, .iload_n 2, 1), (16, .aload_n 0, 1), (17, .iload_n 1, 1), (18, .invokevirtual 135, 3), (21, .if_icmp .ge 25, 3), (24, .aload_n 0, 1), (25, .aload_n 0, 1), (26, .iload_n 1, 1), (27, .iload_n 2, 1), (28, .invokevirtual 139, 3), (31, .aload_n 0, 1), (32, .iload_n 1, 1), (33, .iload_n 2, 1), (34, .invokevirtual 143, 3), (37, .invokevirtual 146, 3), (40, .iinc 2 1, 3), (43, .goto (-28), 3), (46, .return_, 1)]
set_option maxRecDepth 100000 in
theorem dtX8_copyStroke : allD cX8_copyStroke tbX8_copyStroke = true := by decide +kernel
theorem dX8_copyStroke_0 : decode cX8_copyStroke 0 = .ok (.aload_n 0, 1) := allD_get dtX8_copyStroke 0 rfl
theorem dX8_copyStroke_1 : decode cX8_copyStroke 1 = .ok (.aload_n 0, 1) := allD_get dtX8_copyStroke 1 rfl
theorem dX8_copyStroke_2 : decode cX8_copyStroke 2 = .ok (.getfield 7, 3) := allD_get dtX8_copyStroke 2 rfl
theorem dX8_copyStroke_5 : decode cX8_copyStroke 5 = .ok (.bipush 17, 2) := allD_get dtX8_copyStroke 3 rfl
theorem dX8_copyStroke_7 : decode cX8_copyStroke 7 = .ok (.iload_n 1, 1) := allD_get dtX8_copyStroke 4 rfl
theorem dX8_copyStroke_8 : decode cX8_copyStroke 8 = .ok (.iadd, 1) := allD_get dtX8_copyStroke 5 rfl
theorem dX8_copyStroke_9 : decode cX8_copyStroke 9 = .ok (.iaload, 1) := allD_get dtX8_copyStroke 6 rfl
theorem dX8_copyStroke_10 : decode cX8_copyStroke 10 = .ok (.invokevirtual 131, 3) := allD_get dtX8_copyStroke 7 rfl
theorem dX8_copyStroke_13 : decode cX8_copyStroke 13 = .ok (.iconst 0, 1) := allD_get dtX8_copyStroke 8 rfl
theorem dX8_copyStroke_14 : decode cX8_copyStroke 14 = .ok (.istore_n 2, 1) := allD_get dtX8_copyStroke 9 rfl
theorem dX8_copyStroke_15 : decode cX8_copyStroke 15 = .ok (.iload_n 2, 1) := allD_get dtX8_copyStroke 10 rfl
theorem dX8_copyStroke_16 : decode cX8_copyStroke 16 = .ok (.aload_n 0, 1) := allD_get dtX8_copyStroke 11 rfl
theorem dX8_copyStroke_17 : decode cX8_copyStroke 17 = .ok (.iload_n 1, 1) := allD_get dtX8_copyStroke 12 rfl
theorem dX8_copyStroke_18 : decode cX8_copyStroke 18 = .ok (.invokevirtual 135, 3) := allD_get dtX8_copyStroke 13 rfl
theorem dX8_copyStroke_21 : decode cX8_copyStroke 21 = .ok (.if_icmp .ge 25, 3) := allD_get dtX8_copyStroke 14 rfl
theorem dX8_copyStroke_24 : decode cX8_copyStroke 24 = .ok (.aload_n 0, 1) := allD_get dtX8_copyStroke 15 rfl
theorem dX8_copyStroke_25 : decode cX8_copyStroke 25 = .ok (.aload_n 0, 1) := allD_get dtX8_copyStroke 16 rfl
theorem dX8_copyStroke_26 : decode cX8_copyStroke 26 = .ok (.iload_n 1, 1) := allD_get dtX8_copyStroke 17 rfl
theorem dX8_copyStroke_27 : decode cX8_copyStroke 27 = .ok (.iload_n 2, 1) := allD_get dtX8_copyStroke 18 rfl
theorem dX8_copyStroke_28 : decode cX8_copyStroke 28 = .ok (.invokevirtual 139, 3) := allD_get dtX8_copyStroke 19 rfl
theorem dX8_copyStroke_31 : decode cX8_copyStroke 31 = .ok (.aload_n 0, 1) := allD_get dtX8_copyStroke 20 rfl
theorem dX8_copyStroke_32 : decode cX8_copyStroke 32 = .ok (.iload_n 1, 1) := allD_get dtX8_copyStroke 21 rfl
theorem dX8_copyStroke_33 : decode cX8_copyStroke 33 = .ok (.iload_n 2, 1) := allD_get dtX8_copyStroke 22 rfl
theorem dX8_copyStroke_34 : decode cX8_copyStroke 34 = .ok (.invokevirtual 143, 3) := allD_get dtX8_copyStroke 23 rfl
theorem dX8_copyStroke_37 : decode cX8_copyStroke 37 = .ok (.invokevirtual 146, 3) := allD_get dtX8_copyStroke 24 rfl
theorem dX8_copyStroke_40 : decode cX8_copyStroke 40 = .ok (.iinc 2 1, 3) := allD_get dtX8_copyStroke 25 rfl
theorem dX8_copyStroke_43 : decode cX8_copyStroke 43 = .ok (.goto (-28), 3) := allD_get dtX8_copyStroke 26 rfl
theorem dX8_copyStroke_46 : decode cX8_copyStroke 46 = .ok (.return_, 1) := allD_get dtX8_copyStroke 27 rfl
def tbX8_become : List (Nat × Instr × Nat) := [(0, .aload_n 0, 1), (1, .invokevirtual 149, 3), (4, .aload_n 0, 1), (5, .getfield 39, 3), (8, .iconst 0, 1), (9, .aload_n 0, 1), (10, .getfield 7, 3), (13, .iconst 0, 1), (14, .invokestatic 82, 3), (17, .return_, 1)]
set_option maxRecDepth 100000 in
theorem dtX8_become : allD cX8_become tbX8_become = true := by decide +kernel
theorem dX8_become_0 : decode cX8_become 0 = .ok (.aload_n 0, 1) := allD_get dtX8_become 0 rfl
theorem dX8_become_1 : decode cX8_become 1 = .ok (.invokevirtual 149, 3) := allD_get dtX8_become 1 rfl
theorem dX8_become_4 : decode cX8_become 4 = .ok (.aload_n 0, 1) := allD_get dtX8_become 2 rfl
theorem dX8_become_5 : decode cX8_become 5 = .ok (.getfield 39, 3) := allD_get dtX8_become 3 rfl
theorem dX8_become_8 : decode cX8_become 8 = .ok (.iconst 0, 1) := allD_get dtX8_become 4 rfl
theorem dX8_become_9 : decode cX8_become 9 = .ok (.aload_n 0, 1) := allD_get dtX8_become 5 rfl
theorem dX8_become_10 : decode cX8_become 10 = .ok (.getfield 7, 3) := allD_get dtX8_become 6 rfl
theorem dX8_become_13 : decode cX8_become 13 = .ok (.iconst 0, 1) := allD_get dtX8_become 7 rfl
theorem dX8_become_14 : decode cX8_become 14 = .ok (.invokestatic 82, 3) := allD_get dtX8_become 8 rfl
theorem dX8_become_17 : decode cX8_become 17 = .ok (.return_, 1) := allD_get dtX8_become 9 rfl
def tbX8_noStroke : List (Nat × Instr × Nat) := [(0, .iload_n 1, 1), (1, .iconst 0, 1), (2, .aload_n 0, 1), (3, .invokevirtual 152, 3), (6, .iconst 1, 1), (7, .isub, 1), (8, .invokestatic 75, 3), (11, .ifCond .ne 7, 3), (14, .iconst 1, 1), (15, .goto 4, 3), (18, .iconst 0, 1), (19, .ireturn, 1)]
set_option maxRecDepth 100000 in
theorem dtX8_noStroke : allD cX8_noStroke tbX8_noStroke = true := by decide +kernel
theorem dX8_noStroke_0 : decode cX8_noStroke 0 = .ok (.iload_n 1, 1) := allD_get dtX8_noStroke 0 rfl
theorem dX8_noStroke_1 : decode cX8_noStroke 1 = .ok (.iconst 0, 1) := allD_get dtX8_noStroke 1 rfl
theorem dX8_noStroke_2 : decode cX8_noStroke 2 = .ok (.aload_n 0, 1) := allD_get dtX8_noStroke 2 rfl
theorem dX8_noStroke_3 : decode cX8_noStroke 3 = .ok (.invokevirtual 152, 3) := allD_get dtX8_noStroke 3 rfl
theorem dX8_noStroke_6 : decode cX8_noStroke 6 = .ok (.iconst 1, 1) := allD_get dtX8_noStroke 4 rfl
theorem dX8_noStroke_7 : decode cX8_noStroke 7 = .ok (.isub, 1) := allD_get dtX8_noStroke 5 rfl
theorem dX8_noStroke_8 : decode cX8_noStroke 8 = .ok (.invokestatic 75, 3) := allD_get dtX8_noStroke 6 rfl
theorem dX8_noStroke_11 : decode cX8_noStroke 11 = .ok (.ifCond .ne 7, 3) := allD_get dtX8_noStroke 7 rfl
theorem dX8_noStroke_14 : decode cX8_noStroke 14 = .ok (.iconst 1, 1) := allD_get dtX8_noStroke 8 rfl
theorem dX8_noStroke_15 : decode cX8_noStroke 15 = .ok (.goto 4, 3) := allD_get dtX8_noStroke 9 rfl
theorem dX8_noStroke_18 : decode cX8_noStroke 18 = .ok (.iconst 0, 1) := allD_get dtX8_noStroke 10 rfl
theorem dX8_noStroke_19 : decode cX8_noStroke 19 = .ok (.ireturn, 1) := allD_get dtX8_noStroke 11 rfl
def tbX8_draw : List (Nat × Instr × Nat) := [(0, .iload_n 1, 1), (1, .iconst 0, 1), (2, .iconst 3, 1), (3, .invokestatic 75, 3), (6, .ifCond .ne 6, 3), (9, .bipush (-2), 2), (11, .ireturn, 1), (12, .aload_n 0, 1), (13, .getfield 92, 3), (16, .ifCond .ne 6, 3), (19, .bipush (-4), 2), (21, .ireturn, 1), (22, .aload_n 0, 1), (23, .invokevirtual 152, 3), (26, .bipush 16, 2), (28, .if_icmp .ne 6, 3), (31, .bipush (-3), 2), (33, .ireturn, 1), (34, .aload_n 0, 1), (35, .invokevirtual 155, 3), (38, .iconst 0, 1), (39, .istore_n 2, 1), (40, .iload_n 2, 1), (41, .aload_n 0, 1), (42, .invokevirtual 152, 3), (45, .if_icmp .ge 14, 3), (48, .aload_n 0, 1), (49, .iload_n 2, 1), (50, .invokevirtual 158, 3), (53, .iinc 2 1, 3), (56, .goto (-16), 3), (59, .aload_n 0, 1), (60, .iload_n 1, 1), (61, .invokevirtual 131, 3), (64, .iconst 0, 1), (65, .istore_n 2, 1), (66, .iload_n 2, 1), (67, .aload_n 0, 1), (68, .getfield 92, 3), (71, .if_icmp .ge 25, 3), (74, .aload_n 0, 1), (75, .aload_n 0, 1), (76, .getfield 23, 3), (79, .iload_n 2, 1), (80, .iaload, 1), (81, .aload_n 0, 1), (82, .getfield 26, 3), (85, .iload_n 2, 1), (86, .iaload, 1), (87, .invokevirtual 146, 3), (90, .iinc 2 1, 3), (93, .goto (-27), 3), (96, .aload_n 0, 1), (97, .iconst 0, 1), (98, .putfield 92, 3), (101, .aload_n 0, 1), (102, .invokevirtual 161, 3), (105, .aload_n 0, 1), (106, .invokevirtual 152, 3), (109, .iconst 1, 1), (110, .isub, 1), (111, .ireturn, 1)]
set_option maxRecDepth 100000 in
theorem dtX8_draw : allD cX8_draw tbX8_draw = true := by decide +kernel
theorem dX8_draw_0 : decode cX8_draw 0 = .ok (.iload_n 1, 1) := allD_get dtX8_draw 0 rfl
theorem dX8_draw_1 : decode cX8_draw 1 = .ok (.iconst 0, 1) := allD_get dtX8_draw 1 rfl
theorem dX8_draw_2 : decode cX8_draw 2 = .ok (.iconst 3, 1) := allD_get dtX8_draw 2 rfl
theorem dX8_draw_3 : decode cX8_draw 3 = .ok (.invokestatic 75, 3) := allD_get dtX8_draw 3 rfl
theorem dX8_draw_6 : decode cX8_draw 6 = .ok (.ifCond .ne 6, 3) := allD_get dtX8_draw 4 rfl
theorem dX8_draw_9 : decode cX8_draw 9 = .ok (.bipush (-2), 2) := allD_get dtX8_draw 5 rfl
theorem dX8_draw_11 : decode cX8_draw 11 = .ok (.ireturn, 1) := allD_get dtX8_draw 6 rfl
theorem dX8_draw_12 : decode cX8_draw 12 = .ok (.aload_n 0, 1) := allD_get dtX8_draw 7 rfl
theorem dX8_draw_13 : decode cX8_draw 13 = .ok (.getfield 92, 3) := allD_get dtX8_draw 8 rfl
theorem dX8_draw_16 : decode cX8_draw 16 = .ok (.ifCond .ne 6, 3) := allD_get dtX8_draw 9 rfl
theorem dX8_draw_19 : decode cX8_draw 19 = .ok (.bipush (-4), 2) := allD_get dtX8_draw 10 rfl
theorem dX8_draw_21 : decode cX8_draw 21 = .ok (.ireturn, 1) := allD_get dtX8_draw 11 rfl
theorem dX8_draw_22 : decode cX8_draw 22 = .ok (.aload_n 0, 1) := allD_get dtX8_draw 12 rfl
theorem dX8_draw_23 : decode cX8_draw 23 = .ok (.invokevirtual 152, 3) := allD_get dtX8_draw 13 rfl
theorem dX8_draw_26 : decode cX8_draw 26 = .ok (.bipush 16, 2) := allD_get dtX8_draw 14 rfl
theorem dX8_draw_28 : decode cX8_draw 28 = .ok (.if_icmp .ne 6, 3) := allD_get dtX8_draw 15 rfl
theorem dX8_draw_31 : decode cX8_draw 31 = .ok (.bipush (-3), 2) := allD_get dtX8_draw 16 rfl
theorem dX8_draw_33 : decode cX8_draw 33 = .ok (.ireturn, 1) := allD_get dtX8_draw 17 rfl
theorem dX8_draw_34 : decode cX8_draw 34 = .ok (.aload_n 0, 1) := allD_get dtX8_draw 18 rfl
theorem dX8_draw_35 : decode cX8_draw 35 = .ok (.invokevirtual 155, 3) := allD_get dtX8_draw 19 rfl
theorem dX8_draw_38 : decode cX8_draw 38 = .ok (.iconst 0, 1) := allD_get dtX8_draw 20 rfl
theorem dX8_draw_39 : decode cX8_draw 39 = .ok (.istore_n 2, 1) := allD_get dtX8_draw 21 rfl
theorem dX8_draw_40 : decode cX8_draw 40 = .ok (.iload_n 2, 1) := allD_get dtX8_draw 22 rfl
theorem dX8_draw_41 : decode cX8_draw 41 = .ok (.aload_n 0, 1) := allD_get dtX8_draw 23 rfl
theorem dX8_draw_42 : decode cX8_draw 42 = .ok (.invokevirtual 152, 3) := allD_get dtX8_draw 24 rfl
theorem dX8_draw_45 : decode cX8_draw 45 = .ok (.if_icmp .ge 14, 3) := allD_get dtX8_draw 25 rfl
theorem dX8_draw_48 : decode cX8_draw 48 = .ok (.aload_n 0, 1) := allD_get dtX8_draw 26 rfl
theorem dX8_draw_49 : decode cX8_draw 49 = .ok (.iload_n 2, 1) := allD_get dtX8_draw 27 rfl
theorem dX8_draw_50 : decode cX8_draw 50 = .ok (.invokevirtual 158, 3) := allD_get dtX8_draw 28 rfl
theorem dX8_draw_53 : decode cX8_draw 53 = .ok (.iinc 2 1, 3) := allD_get dtX8_draw 29 rfl
theorem dX8_draw_56 : decode cX8_draw 56 = .ok (.goto (-16), 3) := allD_get dtX8_draw 30 rfl
theorem dX8_draw_59 : decode cX8_draw 59 = .ok (.aload_n 0, 1) := allD_get dtX8_draw 31 rfl
theorem dX8_draw_60 : decode cX8_draw 60 = .ok (.iload_n 1, 1) := allD_get dtX8_draw 32 rfl
theorem dX8_draw_61 : decode cX8_draw 61 = .ok (.invokevirtual 131, 3) := allD_get dtX8_draw 33 rfl
theorem dX8_draw_64 : decode cX8_draw 64 = .ok (.iconst 0, 1) := allD_get dtX8_draw 34 rfl
theorem dX8_draw_65 : decode cX8_draw 65 = .ok (.istore_n 2, 1) := allD_get dtX8_draw 35 rfl
theorem dX8_draw_66 : decode cX8_draw 66 = .ok (.iload_n 2, 1) := allD_get dtX8_draw 36 rfl
theorem dX8_draw_67 : decode cX8_draw 67 = .ok (.aload_n 0, 1) := allD_get dtX8_draw 37 rfl
theorem dX8_draw_68 : decode cX8_draw 68 = .ok (.getfield 92, 3) := allD_get dtX8_draw 38 rfl
theorem dX8_draw_71 : decode cX8_draw 71 = .ok (.if_icmp .ge 25, 3) := allD_get dtX8_draw 39 rfl
theorem dX8_draw_74 : decode cX8_draw 74 = .ok (.aload_n 0, 1) := allD_get dtX8_draw 40 rfl
theorem dX8_draw_75 : decode cX8_draw 75 = .ok (.aload_n 0, 1) := allD_get dtX8_draw 41 rfl
theorem dX8_draw_76 : decode cX8_draw 76 = .ok (.getfield 23, 3) := allD_get dtX8_draw 42 rfl
theorem dX8_draw_79 : decode cX8_draw 79 = .ok (.iload_n 2, 1) := allD_get dtX8_draw 43 rfl
theorem dX8_draw_80 : decode cX8_draw 80 = .ok (.iaload, 1) := allD_get dtX8_draw 44 rfl
theorem dX8_draw_81 : decode cX8_draw 81 = .ok (.aload_n 0, 1) := allD_get dtX8_draw 45 rfl
theorem dX8_draw_82 : decode cX8_draw 82 = .ok (.getfield 26, 3) := allD_get dtX8_draw 46 rfl
theorem dX8_draw_85 : decode cX8_draw 85 = .ok (.iload_n 2, 1) := allD_get dtX8_draw 47 rfl
theorem dX8_draw_86 : decode cX8_draw 86 = .ok (.iaload, 1) := allD_get dtX8_draw 48 rfl
theorem dX8_draw_87 : decode cX8_draw 87 = .ok (.invokevirtual 146, 3) := allD_get dtX8_draw 49 rfl
theorem dX8_draw_90 : decode cX8_draw 90 = .ok (.iinc 2 1, 3) := allD_get dtX8_draw 50 rfl
theorem dX8_draw_93 : decode cX8_draw 93 = .ok (.goto (-27), 3) := allD_get dtX8_draw 51 rfl
theorem dX8_draw_96 : decode cX8_draw 96 = .ok (.aload_n 0, 1) := allD_get dtX8_draw 52 rfl
theorem dX8_draw_97 : decode cX8_draw 97 = .ok (.iconst 0, 1) := allD_get dtX8_draw 53 rfl
theorem dX8_draw_98 : decode cX8_draw 98 = .ok (.putfield 92, 3) := allD_get dtX8_draw 54 rfl
theorem dX8_draw_101 : decode cX8_draw 101 = .ok (.aload_n 0, 1) := allD_get dtX8_draw 55 rfl
theorem dX8_draw_102 : decode cX8_draw 102 = .ok (.invokevirtual 161, 3) := allD_get dtX8_draw 56 rfl
theorem dX8_draw_105 : decode cX8_draw 105 = .ok (.aload_n 0, 1) := allD_get dtX8_draw 57 rfl
theorem dX8_draw_106 : decode cX8_draw 106 = .ok (.invokevirtual 152, 3) := allD_get dtX8_draw 58 rfl
theorem dX8_draw_109 : decode cX8_draw 109 = .ok (.iconst 1, 1) := allD_get dtX8_draw 59 rfl
theorem dX8_draw_110 : decode cX8_draw 110 = .ok (.isub, 1) := allD_get dtX8_draw 60 rfl
theorem dX8_draw_111 : decode cX8_draw 111 = .ok (.ireturn, 1) := allD_get dtX8_draw 61 rfl
def tbX8_square : List (Nat × Instr × Nat) := [(0, .iload_n 0, 1), (1, .iload_n 0, 1), (2, .imul, 1), (3, .iload_n 1, 1), (4, .iload_n 1, 1), (5, .imul, 1), (6, .iadd, 1), (7, .ireturn, 1)]
set_option maxRecDepth 100000 in
theorem dtX8_square : allD cX8_square tbX8_square = true := by decide +kernel
theorem dX8_square_0 : decode cX8_square 0 = .ok (.iload_n 0, 1) := allD_get dtX8_square 0 rfl
theorem dX8_square_1 : decode cX8_square 1 = .ok (.iload_n 0, 1) := allD_get dtX8_square 1 rfl
theorem dX8_square_2 : decode cX8_square 2 = .ok (.imul, 1) := allD_get dtX8_square 2 rfl
theorem dX8_square_3 : decode cX8_square 3 = .ok (.iload_n 1, 1) := allD_get dtX8_square 3 rfl
theorem dX8_square_4 : decode cX8_square 4 = .ok (.iload_n 1, 1) := allD_get dtX8_square 4 rfl
theorem dX8_square_5 : decode cX8_square 5 = .ok (.imul, 1) := allD_get dtX8_square 5 rfl
theorem dX8_square_6 : decode cX8_square 6 = .ok (.iadd, 1) := allD_get dtX8_square 6 rfl
theorem dX8_square_7 : decode cX8_square 7 = .ok (.ireturn, 1) := allD_get dtX8_square 7 rfl
def tbX8_rub : List (Nat × Instr × Nat) := [(0, .iload_n 1, 1), (1, .invokestatic 99, 3), (4, .ifCond .eq 21, 3), (7, .iload_n 2, 1), (8, .invokestatic 99, 3), (11, .ifCond .eq 14, 3), (14, .iload_n 3, 1), (15, .iconst 0, 1), (16, .sipush 500, 3), (19, .invokestatic 75, 3), (22, .ifCond .ne 6, 3), (25, .bipush (-2), 2), (27, .ireturn, 1), (28, .aload_n 0, 1), (29, .invokevirtual 155, 3), (32, .iconst 0, 1), (33, .istore 4, 2), (35, .iconst 0, 1), (36, .istore 5, 2), (38, .iload 5, 2), (40, .aload_n 0, 1), (41, .invokevirtual 152, 3), (44, .if_icmp .ge 144, 3), (47, .iconst 0, 1), (48, .istore 6, 2), (50, .iconst 0, 1), (51, .istore 7, 2), (53, .iload 7, 2), (55, .aload_n 0, 1), (56, .iload 5, 2), (58, .invokevirtual 135, 3), (61, .if_icmp .ge 121, 3), (64, .aload_n 0, 1), (65, .iload 5, 2), (67, .iload 7, 2), (69, .invokevirtual 139, 3), (72, .iload_n 1, 1), (73, .isub, 1), (74, .aload_n 0, 1), (75, .iload 5, 2), (77, .iload 7, 2), (79, .invokevirtual 143, 3), (82, .iload_n 2, 1), (83, .isub, 1), (84, .invokestatic 164, 3), (87, .iload_n 3, 1), (88, .iload_n 3, 1), (89, .imul, 1), (90, .if_icmp .gt 7, 3), (93, .iconst 1, 1), (94, .goto 4, 3), (97, .iconst 0, 1), (98, .istore 8, 2), (100, .iload 8, 2), (102, .ifCond .ne 22, 3), (105, .iload 6, 2), (107, .ifCond .ne 17, 3), (110, .aload_n 0, 1), (111, .aload_n 0, 1), (112, .getfield 7, 3), (115, .bipush 17, 2), (117, .iload 5, 2), (119, .iadd, 1), (120, .iaload, 1), (121, .invokevirtual 131, 3), (124, .iload 8, 2), (126, .ifCond .ne 23, 3), (129, .aload_n 0, 1), (130, .aload_n 0, 1), (131, .iload 5, 2), (133, .iload 7, 2), (135, .invokevirtual 139, 3), (138, .aload_n 0, 1), (139, .iload 5, 2), (141, .iload 7, 2), (143, .invokevirtual 143, 3), (146, .invokevirtual 146, 3), (149, .iload 8, 2), (151, .ifCond .ne 7, 3), (154, .iconst 1, 1), (155, .goto 4, 3), (158, .iconst 0, 1), (159, .istore 6, 2), (161, .iload 4, 2), (163, .iload 8, 2), (165, .ifCond .eq 7, 3), (168, .iconst 1, 1), (169, .goto 4, 3), (172, .iconst 0, 1), (173, .iadd, 1), (174, .istore 4, 2), (176, .iinc 7 1, 3), (179, .goto (-126), 3), (182, .iinc 5 1, 3), (185, .goto (-147), 3), (188, .aload_n 0, 1), (189, .getfield 39, 3), (192, .iconst 0, 1), (193, .iaload, 1), (194, .bipush 16, 2), (196, .if_icmp .le 6, 3), (199, .bipush (-3), 2), (201, .ireturn, 1), (202, .iload 4, 2), (204, .ifCond .ne 6, 3), (207, .bipush (-5), 2), (209, .ireturn, 1), (210, .aload_n 0, 1), (211, .invokevirtual 161, 3), (214, .iload 4, 2), (216, .ireturn, 1)]
set_option maxRecDepth 100000 in
theorem dtX8_rub : allD cX8_rub tbX8_rub = true := by decide +kernel
theorem dX8_rub_0 : decode cX8_rub 0 = .ok (.iload_n 1, 1) := allD_get dtX8_rub 0 rfl
theorem dX8_rub_1 : decode cX8_rub 1 = .ok (.invokestatic 99, 3) := allD_get dtX8_rub 1 rfl
theorem dX8_rub_4 : decode cX8_rub 4 = .ok (.ifCond .eq 21, 3) := allD_get dtX8_rub 2 rfl
theorem dX8_rub_7 : decode cX8_rub 7 = .ok (.iload_n 2, 1) := allD_get dtX8_rub 3 rfl
theorem dX8_rub_8 : decode cX8_rub 8 = .ok (.invokestatic 99, 3) := allD_get dtX8_rub 4 rfl
theorem dX8_rub_11 : decode cX8_rub 11 = .ok (.ifCond .eq 14, 3) := allD_get dtX8_rub 5 rfl
theorem dX8_rub_14 : decode cX8_rub 14 = .ok (.iload_n 3, 1) := allD_get dtX8_rub 6 rfl
theorem dX8_rub_15 : decode cX8_rub 15 = .ok (.iconst 0, 1) := allD_get dtX8_rub 7 rfl
theorem dX8_rub_16 : decode cX8_rub 16 = .ok (.sipush 500, 3) := allD_get dtX8_rub 8 rfl
theorem dX8_rub_19 : decode cX8_rub 19 = .ok (.invokestatic 75, 3) := allD_get dtX8_rub 9 rfl
theorem dX8_rub_22 : decode cX8_rub 22 = .ok (.ifCond .ne 6, 3) := allD_get dtX8_rub 10 rfl
theorem dX8_rub_25 : decode cX8_rub 25 = .ok (.bipush (-2), 2) := allD_get dtX8_rub 11 rfl
theorem dX8_rub_27 : decode cX8_rub 27 = .ok (.ireturn, 1) := allD_get dtX8_rub 12 rfl
theorem dX8_rub_28 : decode cX8_rub 28 = .ok (.aload_n 0, 1) := allD_get dtX8_rub 13 rfl
theorem dX8_rub_29 : decode cX8_rub 29 = .ok (.invokevirtual 155, 3) := allD_get dtX8_rub 14 rfl
theorem dX8_rub_32 : decode cX8_rub 32 = .ok (.iconst 0, 1) := allD_get dtX8_rub 15 rfl
theorem dX8_rub_33 : decode cX8_rub 33 = .ok (.istore 4, 2) := allD_get dtX8_rub 16 rfl
theorem dX8_rub_35 : decode cX8_rub 35 = .ok (.iconst 0, 1) := allD_get dtX8_rub 17 rfl
theorem dX8_rub_36 : decode cX8_rub 36 = .ok (.istore 5, 2) := allD_get dtX8_rub 18 rfl
theorem dX8_rub_38 : decode cX8_rub 38 = .ok (.iload 5, 2) := allD_get dtX8_rub 19 rfl
theorem dX8_rub_40 : decode cX8_rub 40 = .ok (.aload_n 0, 1) := allD_get dtX8_rub 20 rfl
theorem dX8_rub_41 : decode cX8_rub 41 = .ok (.invokevirtual 152, 3) := allD_get dtX8_rub 21 rfl
theorem dX8_rub_44 : decode cX8_rub 44 = .ok (.if_icmp .ge 144, 3) := allD_get dtX8_rub 22 rfl
theorem dX8_rub_47 : decode cX8_rub 47 = .ok (.iconst 0, 1) := allD_get dtX8_rub 23 rfl
theorem dX8_rub_48 : decode cX8_rub 48 = .ok (.istore 6, 2) := allD_get dtX8_rub 24 rfl
theorem dX8_rub_50 : decode cX8_rub 50 = .ok (.iconst 0, 1) := allD_get dtX8_rub 25 rfl
theorem dX8_rub_51 : decode cX8_rub 51 = .ok (.istore 7, 2) := allD_get dtX8_rub 26 rfl
theorem dX8_rub_53 : decode cX8_rub 53 = .ok (.iload 7, 2) := allD_get dtX8_rub 27 rfl
theorem dX8_rub_55 : decode cX8_rub 55 = .ok (.aload_n 0, 1) := allD_get dtX8_rub 28 rfl
theorem dX8_rub_56 : decode cX8_rub 56 = .ok (.iload 5, 2) := allD_get dtX8_rub 29 rfl
theorem dX8_rub_58 : decode cX8_rub 58 = .ok (.invokevirtual 135, 3) := allD_get dtX8_rub 30 rfl
theorem dX8_rub_61 : decode cX8_rub 61 = .ok (.if_icmp .ge 121, 3) := allD_get dtX8_rub 31 rfl
theorem dX8_rub_64 : decode cX8_rub 64 = .ok (.aload_n 0, 1) := allD_get dtX8_rub 32 rfl
theorem dX8_rub_65 : decode cX8_rub 65 = .ok (.iload 5, 2) := allD_get dtX8_rub 33 rfl
theorem dX8_rub_67 : decode cX8_rub 67 = .ok (.iload 7, 2) := allD_get dtX8_rub 34 rfl
theorem dX8_rub_69 : decode cX8_rub 69 = .ok (.invokevirtual 139, 3) := allD_get dtX8_rub 35 rfl
theorem dX8_rub_72 : decode cX8_rub 72 = .ok (.iload_n 1, 1) := allD_get dtX8_rub 36 rfl
theorem dX8_rub_73 : decode cX8_rub 73 = .ok (.isub, 1) := allD_get dtX8_rub 37 rfl
theorem dX8_rub_74 : decode cX8_rub 74 = .ok (.aload_n 0, 1) := allD_get dtX8_rub 38 rfl
theorem dX8_rub_75 : decode cX8_rub 75 = .ok (.iload 5, 2) := allD_get dtX8_rub 39 rfl
theorem dX8_rub_77 : decode cX8_rub 77 = .ok (.iload 7, 2) := allD_get dtX8_rub 40 rfl
theorem dX8_rub_79 : decode cX8_rub 79 = .ok (.invokevirtual 143, 3) := allD_get dtX8_rub 41 rfl
theorem dX8_rub_82 : decode cX8_rub 82 = .ok (.iload_n 2, 1) := allD_get dtX8_rub 42 rfl
theorem dX8_rub_83 : decode cX8_rub 83 = .ok (.isub, 1) := allD_get dtX8_rub 43 rfl
theorem dX8_rub_84 : decode cX8_rub 84 = .ok (.invokestatic 164, 3) := allD_get dtX8_rub 44 rfl
theorem dX8_rub_87 : decode cX8_rub 87 = .ok (.iload_n 3, 1) := allD_get dtX8_rub 45 rfl
theorem dX8_rub_88 : decode cX8_rub 88 = .ok (.iload_n 3, 1) := allD_get dtX8_rub 46 rfl
theorem dX8_rub_89 : decode cX8_rub 89 = .ok (.imul, 1) := allD_get dtX8_rub 47 rfl
theorem dX8_rub_90 : decode cX8_rub 90 = .ok (.if_icmp .gt 7, 3) := allD_get dtX8_rub 48 rfl
theorem dX8_rub_93 : decode cX8_rub 93 = .ok (.iconst 1, 1) := allD_get dtX8_rub 49 rfl
theorem dX8_rub_94 : decode cX8_rub 94 = .ok (.goto 4, 3) := allD_get dtX8_rub 50 rfl
theorem dX8_rub_97 : decode cX8_rub 97 = .ok (.iconst 0, 1) := allD_get dtX8_rub 51 rfl
theorem dX8_rub_98 : decode cX8_rub 98 = .ok (.istore 8, 2) := allD_get dtX8_rub 52 rfl
theorem dX8_rub_100 : decode cX8_rub 100 = .ok (.iload 8, 2) := allD_get dtX8_rub 53 rfl
theorem dX8_rub_102 : decode cX8_rub 102 = .ok (.ifCond .ne 22, 3) := allD_get dtX8_rub 54 rfl
theorem dX8_rub_105 : decode cX8_rub 105 = .ok (.iload 6, 2) := allD_get dtX8_rub 55 rfl
theorem dX8_rub_107 : decode cX8_rub 107 = .ok (.ifCond .ne 17, 3) := allD_get dtX8_rub 56 rfl
theorem dX8_rub_110 : decode cX8_rub 110 = .ok (.aload_n 0, 1) := allD_get dtX8_rub 57 rfl
theorem dX8_rub_111 : decode cX8_rub 111 = .ok (.aload_n 0, 1) := allD_get dtX8_rub 58 rfl
theorem dX8_rub_112 : decode cX8_rub 112 = .ok (.getfield 7, 3) := allD_get dtX8_rub 59 rfl
theorem dX8_rub_115 : decode cX8_rub 115 = .ok (.bipush 17, 2) := allD_get dtX8_rub 60 rfl
theorem dX8_rub_117 : decode cX8_rub 117 = .ok (.iload 5, 2) := allD_get dtX8_rub 61 rfl
theorem dX8_rub_119 : decode cX8_rub 119 = .ok (.iadd, 1) := allD_get dtX8_rub 62 rfl
theorem dX8_rub_120 : decode cX8_rub 120 = .ok (.iaload, 1) := allD_get dtX8_rub 63 rfl
theorem dX8_rub_121 : decode cX8_rub 121 = .ok (.invokevirtual 131, 3) := allD_get dtX8_rub 64 rfl
theorem dX8_rub_124 : decode cX8_rub 124 = .ok (.iload 8, 2) := allD_get dtX8_rub 65 rfl
theorem dX8_rub_126 : decode cX8_rub 126 = .ok (.ifCond .ne 23, 3) := allD_get dtX8_rub 66 rfl
theorem dX8_rub_129 : decode cX8_rub 129 = .ok (.aload_n 0, 1) := allD_get dtX8_rub 67 rfl
theorem dX8_rub_130 : decode cX8_rub 130 = .ok (.aload_n 0, 1) := allD_get dtX8_rub 68 rfl
theorem dX8_rub_131 : decode cX8_rub 131 = .ok (.iload 5, 2) := allD_get dtX8_rub 69 rfl
theorem dX8_rub_133 : decode cX8_rub 133 = .ok (.iload 7, 2) := allD_get dtX8_rub 70 rfl
theorem dX8_rub_135 : decode cX8_rub 135 = .ok (.invokevirtual 139, 3) := allD_get dtX8_rub 71 rfl
theorem dX8_rub_138 : decode cX8_rub 138 = .ok (.aload_n 0, 1) := allD_get dtX8_rub 72 rfl
theorem dX8_rub_139 : decode cX8_rub 139 = .ok (.iload 5, 2) := allD_get dtX8_rub 73 rfl
theorem dX8_rub_141 : decode cX8_rub 141 = .ok (.iload 7, 2) := allD_get dtX8_rub 74 rfl
theorem dX8_rub_143 : decode cX8_rub 143 = .ok (.invokevirtual 143, 3) := allD_get dtX8_rub 75 rfl
theorem dX8_rub_146 : decode cX8_rub 146 = .ok (.invokevirtual 146, 3) := allD_get dtX8_rub 76 rfl
theorem dX8_rub_149 : decode cX8_rub 149 = .ok (.iload 8, 2) := allD_get dtX8_rub 77 rfl
theorem dX8_rub_151 : decode cX8_rub 151 = .ok (.ifCond .ne 7, 3) := allD_get dtX8_rub 78 rfl
theorem dX8_rub_154 : decode cX8_rub 154 = .ok (.iconst 1, 1) := allD_get dtX8_rub 79 rfl
theorem dX8_rub_155 : decode cX8_rub 155 = .ok (.goto 4, 3) := allD_get dtX8_rub 80 rfl
theorem dX8_rub_158 : decode cX8_rub 158 = .ok (.iconst 0, 1) := allD_get dtX8_rub 81 rfl
theorem dX8_rub_159 : decode cX8_rub 159 = .ok (.istore 6, 2) := allD_get dtX8_rub 82 rfl
theorem dX8_rub_161 : decode cX8_rub 161 = .ok (.iload 4, 2) := allD_get dtX8_rub 83 rfl
theorem dX8_rub_163 : decode cX8_rub 163 = .ok (.iload 8, 2) := allD_get dtX8_rub 84 rfl
theorem dX8_rub_165 : decode cX8_rub 165 = .ok (.ifCond .eq 7, 3) := allD_get dtX8_rub 85 rfl
theorem dX8_rub_168 : decode cX8_rub 168 = .ok (.iconst 1, 1) := allD_get dtX8_rub 86 rfl
theorem dX8_rub_169 : decode cX8_rub 169 = .ok (.goto 4, 3) := allD_get dtX8_rub 87 rfl
theorem dX8_rub_172 : decode cX8_rub 172 = .ok (.iconst 0, 1) := allD_get dtX8_rub 88 rfl
theorem dX8_rub_173 : decode cX8_rub 173 = .ok (.iadd, 1) := allD_get dtX8_rub 89 rfl
theorem dX8_rub_174 : decode cX8_rub 174 = .ok (.istore 4, 2) := allD_get dtX8_rub 90 rfl
theorem dX8_rub_176 : decode cX8_rub 176 = .ok (.iinc 7 1, 3) := allD_get dtX8_rub 91 rfl
theorem dX8_rub_179 : decode cX8_rub 179 = .ok (.goto (-126), 3) := allD_get dtX8_rub 92 rfl
theorem dX8_rub_182 : decode cX8_rub 182 = .ok (.iinc 5 1, 3) := allD_get dtX8_rub 93 rfl
theorem dX8_rub_185 : decode cX8_rub 185 = .ok (.goto (-147), 3) := allD_get dtX8_rub 94 rfl
theorem dX8_rub_188 : decode cX8_rub 188 = .ok (.aload_n 0, 1) := allD_get dtX8_rub 95 rfl
theorem dX8_rub_189 : decode cX8_rub 189 = .ok (.getfield 39, 3) := allD_get dtX8_rub 96 rfl
theorem dX8_rub_192 : decode cX8_rub 192 = .ok (.iconst 0, 1) := allD_get dtX8_rub 97 rfl
theorem dX8_rub_193 : decode cX8_rub 193 = .ok (.iaload, 1) := allD_get dtX8_rub 98 rfl
theorem dX8_rub_194 : decode cX8_rub 194 = .ok (.bipush 16, 2) := allD_get dtX8_rub 99 rfl
theorem dX8_rub_196 : decode cX8_rub 196 = .ok (.if_icmp .le 6, 3) := allD_get dtX8_rub 100 rfl
theorem dX8_rub_199 : decode cX8_rub 199 = .ok (.bipush (-3), 2) := allD_get dtX8_rub 101 rfl
theorem dX8_rub_201 : decode cX8_rub 201 = .ok (.ireturn, 1) := allD_get dtX8_rub 102 rfl
theorem dX8_rub_202 : decode cX8_rub 202 = .ok (.iload 4, 2) := allD_get dtX8_rub 103 rfl
theorem dX8_rub_204 : decode cX8_rub 204 = .ok (.ifCond .ne 6, 3) := allD_get dtX8_rub 104 rfl
theorem dX8_rub_207 : decode cX8_rub 207 = .ok (.bipush (-5), 2) := allD_get dtX8_rub 105 rfl
theorem dX8_rub_209 : decode cX8_rub 209 = .ok (.ireturn, 1) := allD_get dtX8_rub 106 rfl
theorem dX8_rub_210 : decode cX8_rub 210 = .ok (.aload_n 0, 1) := allD_get dtX8_rub 107 rfl
theorem dX8_rub_211 : decode cX8_rub 211 = .ok (.invokevirtual 161, 3) := allD_get dtX8_rub 108 rfl
theorem dX8_rub_214 : decode cX8_rub 214 = .ok (.iload 4, 2) := allD_get dtX8_rub 109 rfl
theorem dX8_rub_216 : decode cX8_rub 216 = .ok (.ireturn, 1) := allD_get dtX8_rub 110 rfl
def tbX8_take : List (Nat × Instr × Nat) := [(0, .aload_n 0, 1), (1, .aload_n 0, 1), (2, .iload_n 1, 1), (3, .invokevirtual 135, 3), (6, .putfield 167, 3), (9, .iconst 0, 1), (10, .istore_n 2, 1), (11, .iload_n 2, 1), (12, .aload_n 0, 1), (13, .getfield 167, 3), (16, .if_icmp .ge 33, 3), (19, .aload_n 0, 1), (20, .getfield 42, 3), (23, .iload_n 2, 1), (24, .aload_n 0, 1), (25, .iload_n 1, 1), (26, .iload_n 2, 1), (27, .invokevirtual 139, 3), (30, .iastore, 1), (31, .aload_n 0, 1), (32, .getfield 45, 3), (35, .iload_n 2, 1), (36, .aload_n 0, 1), (37, .iload_n 1, 1), (38, .iload_n 2, 1), (39, .invokevirtual 143, 3), (42, .iastore, 1), (43, .iinc 2 1, 3), (46, .goto (-35), 3), (49, .return_, 1)]
set_option maxRecDepth 100000 in
theorem dtX8_take : allD cX8_take tbX8_take = true := by decide +kernel
theorem dX8_take_0 : decode cX8_take 0 = .ok (.aload_n 0, 1) := allD_get dtX8_take 0 rfl
theorem dX8_take_1 : decode cX8_take 1 = .ok (.aload_n 0, 1) := allD_get dtX8_take 1 rfl
theorem dX8_take_2 : decode cX8_take 2 = .ok (.iload_n 1, 1) := allD_get dtX8_take 2 rfl
theorem dX8_take_3 : decode cX8_take 3 = .ok (.invokevirtual 135, 3) := allD_get dtX8_take 3 rfl
theorem dX8_take_6 : decode cX8_take 6 = .ok (.putfield 167, 3) := allD_get dtX8_take 4 rfl
theorem dX8_take_9 : decode cX8_take 9 = .ok (.iconst 0, 1) := allD_get dtX8_take 5 rfl
theorem dX8_take_10 : decode cX8_take 10 = .ok (.istore_n 2, 1) := allD_get dtX8_take 6 rfl
theorem dX8_take_11 : decode cX8_take 11 = .ok (.iload_n 2, 1) := allD_get dtX8_take 7 rfl
theorem dX8_take_12 : decode cX8_take 12 = .ok (.aload_n 0, 1) := allD_get dtX8_take 8 rfl
theorem dX8_take_13 : decode cX8_take 13 = .ok (.getfield 167, 3) := allD_get dtX8_take 9 rfl
theorem dX8_take_16 : decode cX8_take 16 = .ok (.if_icmp .ge 33, 3) := allD_get dtX8_take 10 rfl
theorem dX8_take_19 : decode cX8_take 19 = .ok (.aload_n 0, 1) := allD_get dtX8_take 11 rfl
theorem dX8_take_20 : decode cX8_take 20 = .ok (.getfield 42, 3) := allD_get dtX8_take 12 rfl
theorem dX8_take_23 : decode cX8_take 23 = .ok (.iload_n 2, 1) := allD_get dtX8_take 13 rfl
theorem dX8_take_24 : decode cX8_take 24 = .ok (.aload_n 0, 1) := allD_get dtX8_take 14 rfl
theorem dX8_take_25 : decode cX8_take 25 = .ok (.iload_n 1, 1) := allD_get dtX8_take 15 rfl
theorem dX8_take_26 : decode cX8_take 26 = .ok (.iload_n 2, 1) := allD_get dtX8_take 16 rfl
theorem dX8_take_27 : decode cX8_take 27 = .ok (.invokevirtual 139, 3) := allD_get dtX8_take 17 rfl
theorem dX8_take_30 : decode cX8_take 30 = .ok (.iastore, 1) := allD_get dtX8_take 18 rfl
theorem dX8_take_31 : decode cX8_take 31 = .ok (.aload_n 0, 1) := allD_get dtX8_take 19 rfl
theorem dX8_take_32 : decode cX8_take 32 = .ok (.getfield 45, 3) := allD_get dtX8_take 20 rfl
theorem dX8_take_35 : decode cX8_take 35 = .ok (.iload_n 2, 1) := allD_get dtX8_take 21 rfl
theorem dX8_take_36 : decode cX8_take 36 = .ok (.aload_n 0, 1) := allD_get dtX8_take 22 rfl
theorem dX8_take_37 : decode cX8_take 37 = .ok (.iload_n 1, 1) := allD_get dtX8_take 23 rfl
theorem dX8_take_38 : decode cX8_take 38 = .ok (.iload_n 2, 1) := allD_get dtX8_take 24 rfl
theorem dX8_take_39 : decode cX8_take 39 = .ok (.invokevirtual 143, 3) := allD_get dtX8_take 25 rfl
theorem dX8_take_42 : decode cX8_take 42 = .ok (.iastore, 1) := allD_get dtX8_take 26 rfl
theorem dX8_take_43 : decode cX8_take 43 = .ok (.iinc 2 1, 3) := allD_get dtX8_take 27 rfl
theorem dX8_take_46 : decode cX8_take 46 = .ok (.goto (-35), 3) := allD_get dtX8_take 28 rfl
theorem dX8_take_49 : decode cX8_take 49 = .ok (.return_, 1) := allD_get dtX8_take 29 rfl
def tbX8_dropSame : List (Nat × Instr × Nat) := [(0, .iconst 0, 1), (1, .istore_n 1, 1), (2, .iconst 0, 1), (3, .istore_n 2, 1), (4, .iload_n 2, 1), (5, .aload_n 0, 1), (6, .getfield 167, 3), (9, .if_icmp .ge 74, 3), (12, .iload_n 1, 1), (13, .ifCond .eq 37, 3), (16, .aload_n 0, 1), (17, .getfield 42, 3), (20, .iload_n 2, 1), (21, .iaload, 1), (22, .aload_n 0, 1), (23, .getfield 42, 3), (26, .iload_n 1, 1), (27, .iconst 1, 1), (28, .isub, 1), (29, .iaload, 1), (30, .if_icmp .ne 20, 3), (33, .aload_n 0, 1), (34, .getfield 45, 3), (37, .iload_n 2, 1), (38, .iaload, 1), (39, .aload_n 0, 1), (40, .getfield 45, 3), (43, .iload_n 1, 1), (44, .iconst 1, 1), (45, .isub, 1), (46, .iaload, 1), (47, .if_icmp .eq 30, 3), (50, .aload_n 0, 1), (51, .getfield 42, 3), (54, .iload_n 1, 1), (55, .aload_n 0, 1), (56, .getfield 42, 3), (59, .iload_n 2, 1), (60, .iaload, 1), (61, .iastore, 1), (62, .aload_n 0, 1), (63, .getfield 45, 3), (66, .iload_n 1, 1), (67, .aload_n 0, 1), (68, .getfield 45, 3), (71, .iload_n 2, 1), (72, .iaload, 1), (73, .iastore, 1), (74, .iinc 1 1, 3), (77, .iinc 2 1, 3), (80, .goto (-76), 3), (83, .aload_n 0, 1), (84, .iload_n 1, 1), (85, .putfield 167, 3), (88, .return_, 1)]
set_option maxRecDepth 100000 in
theorem dtX8_dropSame : allD cX8_dropSame tbX8_dropSame = true := by decide +kernel
theorem dX8_dropSame_0 : decode cX8_dropSame 0 = .ok (.iconst 0, 1) := allD_get dtX8_dropSame 0 rfl
theorem dX8_dropSame_1 : decode cX8_dropSame 1 = .ok (.istore_n 1, 1) := allD_get dtX8_dropSame 1 rfl
theorem dX8_dropSame_2 : decode cX8_dropSame 2 = .ok (.iconst 0, 1) := allD_get dtX8_dropSame 2 rfl
theorem dX8_dropSame_3 : decode cX8_dropSame 3 = .ok (.istore_n 2, 1) := allD_get dtX8_dropSame 3 rfl
theorem dX8_dropSame_4 : decode cX8_dropSame 4 = .ok (.iload_n 2, 1) := allD_get dtX8_dropSame 4 rfl
theorem dX8_dropSame_5 : decode cX8_dropSame 5 = .ok (.aload_n 0, 1) := allD_get dtX8_dropSame 5 rfl
theorem dX8_dropSame_6 : decode cX8_dropSame 6 = .ok (.getfield 167, 3) := allD_get dtX8_dropSame 6 rfl
theorem dX8_dropSame_9 : decode cX8_dropSame 9 = .ok (.if_icmp .ge 74, 3) := allD_get dtX8_dropSame 7 rfl
theorem dX8_dropSame_12 : decode cX8_dropSame 12 = .ok (.iload_n 1, 1) := allD_get dtX8_dropSame 8 rfl
theorem dX8_dropSame_13 : decode cX8_dropSame 13 = .ok (.ifCond .eq 37, 3) := allD_get dtX8_dropSame 9 rfl
theorem dX8_dropSame_16 : decode cX8_dropSame 16 = .ok (.aload_n 0, 1) := allD_get dtX8_dropSame 10 rfl
theorem dX8_dropSame_17 : decode cX8_dropSame 17 = .ok (.getfield 42, 3) := allD_get dtX8_dropSame 11 rfl
theorem dX8_dropSame_20 : decode cX8_dropSame 20 = .ok (.iload_n 2, 1) := allD_get dtX8_dropSame 12 rfl
theorem dX8_dropSame_21 : decode cX8_dropSame 21 = .ok (.iaload, 1) := allD_get dtX8_dropSame 13 rfl
theorem dX8_dropSame_22 : decode cX8_dropSame 22 = .ok (.aload_n 0, 1) := allD_get dtX8_dropSame 14 rfl
theorem dX8_dropSame_23 : decode cX8_dropSame 23 = .ok (.getfield 42, 3) := allD_get dtX8_dropSame 15 rfl
theorem dX8_dropSame_26 : decode cX8_dropSame 26 = .ok (.iload_n 1, 1) := allD_get dtX8_dropSame 16 rfl
theorem dX8_dropSame_27 : decode cX8_dropSame 27 = .ok (.iconst 1, 1) := allD_get dtX8_dropSame 17 rfl
theorem dX8_dropSame_28 : decode cX8_dropSame 28 = .ok (.isub, 1) := allD_get dtX8_dropSame 18 rfl
theorem dX8_dropSame_29 : decode cX8_dropSame 29 = .ok (.iaload, 1) := allD_get dtX8_dropSame 19 rfl
theorem dX8_dropSame_30 : decode cX8_dropSame 30 = .ok (.if_icmp .ne 20, 3) := allD_get dtX8_dropSame 20 rfl
theorem dX8_dropSame_33 : decode cX8_dropSame 33 = .ok (.aload_n 0, 1) := allD_get dtX8_dropSame 21 rfl
theorem dX8_dropSame_34 : decode cX8_dropSame 34 = .ok (.getfield 45, 3) := allD_get dtX8_dropSame 22 rfl
theorem dX8_dropSame_37 : decode cX8_dropSame 37 = .ok (.iload_n 2, 1) := allD_get dtX8_dropSame 23 rfl
theorem dX8_dropSame_38 : decode cX8_dropSame 38 = .ok (.iaload, 1) := allD_get dtX8_dropSame 24 rfl
theorem dX8_dropSame_39 : decode cX8_dropSame 39 = .ok (.aload_n 0, 1) := allD_get dtX8_dropSame 25 rfl
theorem dX8_dropSame_40 : decode cX8_dropSame 40 = .ok (.getfield 45, 3) := allD_get dtX8_dropSame 26 rfl
theorem dX8_dropSame_43 : decode cX8_dropSame 43 = .ok (.iload_n 1, 1) := allD_get dtX8_dropSame 27 rfl
theorem dX8_dropSame_44 : decode cX8_dropSame 44 = .ok (.iconst 1, 1) := allD_get dtX8_dropSame 28 rfl
theorem dX8_dropSame_45 : decode cX8_dropSame 45 = .ok (.isub, 1) := allD_get dtX8_dropSame 29 rfl
theorem dX8_dropSame_46 : decode cX8_dropSame 46 = .ok (.iaload, 1) := allD_get dtX8_dropSame 30 rfl
theorem dX8_dropSame_47 : decode cX8_dropSame 47 = .ok (.if_icmp .eq 30, 3) := allD_get dtX8_dropSame 31 rfl
theorem dX8_dropSame_50 : decode cX8_dropSame 50 = .ok (.aload_n 0, 1) := allD_get dtX8_dropSame 32 rfl
theorem dX8_dropSame_51 : decode cX8_dropSame 51 = .ok (.getfield 42, 3) := allD_get dtX8_dropSame 33 rfl
theorem dX8_dropSame_54 : decode cX8_dropSame 54 = .ok (.iload_n 1, 1) := allD_get dtX8_dropSame 34 rfl
theorem dX8_dropSame_55 : decode cX8_dropSame 55 = .ok (.aload_n 0, 1) := allD_get dtX8_dropSame 35 rfl
theorem dX8_dropSame_56 : decode cX8_dropSame 56 = .ok (.getfield 42, 3) := allD_get dtX8_dropSame 36 rfl
theorem dX8_dropSame_59 : decode cX8_dropSame 59 = .ok (.iload_n 2, 1) := allD_get dtX8_dropSame 37 rfl
theorem dX8_dropSame_60 : decode cX8_dropSame 60 = .ok (.iaload, 1) := allD_get dtX8_dropSame 38 rfl
theorem dX8_dropSame_61 : decode cX8_dropSame 61 = .ok (.iastore, 1) := allD_get dtX8_dropSame 39 rfl
theorem dX8_dropSame_62 : decode cX8_dropSame 62 = .ok (.aload_n 0, 1) := allD_get dtX8_dropSame 40 rfl
theorem dX8_dropSame_63 : decode cX8_dropSame 63 = .ok (.getfield 45, 3) := allD_get dtX8_dropSame 41 rfl
theorem dX8_dropSame_66 : decode cX8_dropSame 66 = .ok (.iload_n 1, 1) := allD_get dtX8_dropSame 42 rfl
theorem dX8_dropSame_67 : decode cX8_dropSame 67 = .ok (.aload_n 0, 1) := allD_get dtX8_dropSame 43 rfl
theorem dX8_dropSame_68 : decode cX8_dropSame 68 = .ok (.getfield 45, 3) := allD_get dtX8_dropSame 44 rfl
theorem dX8_dropSame_71 : decode cX8_dropSame 71 = .ok (.iload_n 2, 1) := allD_get dtX8_dropSame 45 rfl
theorem dX8_dropSame_72 : decode cX8_dropSame 72 = .ok (.iaload, 1) := allD_get dtX8_dropSame 46 rfl
theorem dX8_dropSame_73 : decode cX8_dropSame 73 = .ok (.iastore, 1) := allD_get dtX8_dropSame 47 rfl
theorem dX8_dropSame_74 : decode cX8_dropSame 74 = .ok (.iinc 1 1, 3) := allD_get dtX8_dropSame 48 rfl
theorem dX8_dropSame_77 : decode cX8_dropSame 77 = .ok (.iinc 2 1, 3) := allD_get dtX8_dropSame 49 rfl
theorem dX8_dropSame_80 : decode cX8_dropSame 80 = .ok (.goto (-76), 3) := allD_get dtX8_dropSame 50 rfl
theorem dX8_dropSame_83 : decode cX8_dropSame 83 = .ok (.aload_n 0, 1) := allD_get dtX8_dropSame 51 rfl
theorem dX8_dropSame_84 : decode cX8_dropSame 84 = .ok (.iload_n 1, 1) := allD_get dtX8_dropSame 52 rfl
theorem dX8_dropSame_85 : decode cX8_dropSame 85 = .ok (.putfield 167, 3) := allD_get dtX8_dropSame 53 rfl
theorem dX8_dropSame_88 : decode cX8_dropSame 88 = .ok (.return_, 1) := allD_get dtX8_dropSame 54 rfl
def tbX8_putBack : List (Nat × Instr × Nat) := [(0, .aload_n 0, 1), (1, .getfield 167, 3), (4, .aload_n 0, 1), (5, .iload_n 1, 1), (6, .invokevirtual 135, 3), (9, .if_icmp .ne 7, 3), (12, .iconst 1, 1), (13, .goto 4, 3), (16, .iconst 0, 1), (17, .istore_n 2, 1), (18, .iconst 0, 1), (19, .istore_n 3, 1), (20, .iload_n 3, 1), (21, .aload_n 0, 1), (22, .getfield 167, 3), (25, .if_icmp .ge 49, 3), (28, .iload_n 2, 1), (29, .ifCond .eq 45, 3), (32, .aload_n 0, 1), (33, .getfield 42, 3), (36, .iload_n 3, 1), (37, .iaload, 1), (38, .aload_n 0, 1), (39, .iload_n 1, 1), (40, .iload_n 3, 1), (41, .invokevirtual 139, 3), (44, .if_icmp .ne 22, 3), (47, .aload_n 0, 1), (48, .getfield 45, 3), (51, .iload_n 3, 1), (52, .iaload, 1), (53, .aload_n 0, 1), (54, .iload_n 1, 1), (55, .iload_n 3, 1), (56, .invokevirtual 143, 3), (59, .if_icmp .ne 7, 3), (62, .iconst 1, 1), (63, .goto 4, 3), (66, .iconst 0, 1), (67, .istore_n 2, 1), (68, .iinc 3 1, 3), (71, .goto (-51), 3), (74, .iload_n 2, 1), (75, .ifCond .eq 6, 3), (78, .bipush (-5), 2), (80, .ireturn, 1), (81, .aload_n 0, 1), (82, .invokevirtual 155, 3), (85, .iconst 0, 1), (86, .istore_n 3, 1), (87, .iload_n 3, 1), (88, .aload_n 0, 1), (89, .invokevirtual 152, 3), (92, .if_icmp .ge 71, 3), (95, .iload_n 3, 1), (96, .iload_n 1, 1), (97, .if_icmp .eq 11, 3), (100, .aload_n 0, 1), (101, .iload_n 3, 1), (102, .invokevirtual 158, 3), (105, .goto 52, 3), (108, .aload_n 0, 1), (109, .aload_n 0, 1), (110, .getfield 7, 3), (113, .bipush 17, 2), (115, .iload_n 1, 1), (116, .iadd, 1), (117, .iaload, 1), (118, .invokevirtual 131, 3), (121, .iconst 0, 1), (122, .istore 4, 2), (124, .iload 4, 2), (126, .aload_n 0, 1), (127, .getfield 167, 3), (130, .if_icmp .ge 27, 3), (133, .aload_n 0, 1), (134, .aload_n 0, 1), (135, .getfield 42, 3), (138, .iload 4, 2), (140, .iaload, 1), (141, .aload_n 0, 1), (142, .getfield 45, 3), (145, .iload 4, 2), (147, .iaload, 1), (148, .invokevirtual 146, 3), (151, .iinc 4 1, 3), (154, .goto (-30), 3), (157, .iinc 3 1, 3), (160, .goto (-73), 3), (163, .aload_n 0, 1), (164, .invokevirtual 161, 3), (167, .aload_n 0, 1), (168, .getfield 167, 3), (171, .ireturn, 1)]
set_option maxRecDepth 100000 in
theorem dtX8_putBack : allD cX8_putBack tbX8_putBack = true := by decide +kernel
theorem dX8_putBack_0 : decode cX8_putBack 0 = .ok (.aload_n 0, 1) := allD_get dtX8_putBack 0 rfl
theorem dX8_putBack_1 : decode cX8_putBack 1 = .ok (.getfield 167, 3) := allD_get dtX8_putBack 1 rfl
theorem dX8_putBack_4 : decode cX8_putBack 4 = .ok (.aload_n 0, 1) := allD_get dtX8_putBack 2 rfl
theorem dX8_putBack_5 : decode cX8_putBack 5 = .ok (.iload_n 1, 1) := allD_get dtX8_putBack 3 rfl
theorem dX8_putBack_6 : decode cX8_putBack 6 = .ok (.invokevirtual 135, 3) := allD_get dtX8_putBack 4 rfl
theorem dX8_putBack_9 : decode cX8_putBack 9 = .ok (.if_icmp .ne 7, 3) := allD_get dtX8_putBack 5 rfl
theorem dX8_putBack_12 : decode cX8_putBack 12 = .ok (.iconst 1, 1) := allD_get dtX8_putBack 6 rfl
theorem dX8_putBack_13 : decode cX8_putBack 13 = .ok (.goto 4, 3) := allD_get dtX8_putBack 7 rfl
theorem dX8_putBack_16 : decode cX8_putBack 16 = .ok (.iconst 0, 1) := allD_get dtX8_putBack 8 rfl
theorem dX8_putBack_17 : decode cX8_putBack 17 = .ok (.istore_n 2, 1) := allD_get dtX8_putBack 9 rfl
theorem dX8_putBack_18 : decode cX8_putBack 18 = .ok (.iconst 0, 1) := allD_get dtX8_putBack 10 rfl
theorem dX8_putBack_19 : decode cX8_putBack 19 = .ok (.istore_n 3, 1) := allD_get dtX8_putBack 11 rfl
theorem dX8_putBack_20 : decode cX8_putBack 20 = .ok (.iload_n 3, 1) := allD_get dtX8_putBack 12 rfl
theorem dX8_putBack_21 : decode cX8_putBack 21 = .ok (.aload_n 0, 1) := allD_get dtX8_putBack 13 rfl
theorem dX8_putBack_22 : decode cX8_putBack 22 = .ok (.getfield 167, 3) := allD_get dtX8_putBack 14 rfl
theorem dX8_putBack_25 : decode cX8_putBack 25 = .ok (.if_icmp .ge 49, 3) := allD_get dtX8_putBack 15 rfl
theorem dX8_putBack_28 : decode cX8_putBack 28 = .ok (.iload_n 2, 1) := allD_get dtX8_putBack 16 rfl
theorem dX8_putBack_29 : decode cX8_putBack 29 = .ok (.ifCond .eq 45, 3) := allD_get dtX8_putBack 17 rfl
theorem dX8_putBack_32 : decode cX8_putBack 32 = .ok (.aload_n 0, 1) := allD_get dtX8_putBack 18 rfl
theorem dX8_putBack_33 : decode cX8_putBack 33 = .ok (.getfield 42, 3) := allD_get dtX8_putBack 19 rfl
theorem dX8_putBack_36 : decode cX8_putBack 36 = .ok (.iload_n 3, 1) := allD_get dtX8_putBack 20 rfl
theorem dX8_putBack_37 : decode cX8_putBack 37 = .ok (.iaload, 1) := allD_get dtX8_putBack 21 rfl
theorem dX8_putBack_38 : decode cX8_putBack 38 = .ok (.aload_n 0, 1) := allD_get dtX8_putBack 22 rfl
theorem dX8_putBack_39 : decode cX8_putBack 39 = .ok (.iload_n 1, 1) := allD_get dtX8_putBack 23 rfl
theorem dX8_putBack_40 : decode cX8_putBack 40 = .ok (.iload_n 3, 1) := allD_get dtX8_putBack 24 rfl
theorem dX8_putBack_41 : decode cX8_putBack 41 = .ok (.invokevirtual 139, 3) := allD_get dtX8_putBack 25 rfl
theorem dX8_putBack_44 : decode cX8_putBack 44 = .ok (.if_icmp .ne 22, 3) := allD_get dtX8_putBack 26 rfl
theorem dX8_putBack_47 : decode cX8_putBack 47 = .ok (.aload_n 0, 1) := allD_get dtX8_putBack 27 rfl
theorem dX8_putBack_48 : decode cX8_putBack 48 = .ok (.getfield 45, 3) := allD_get dtX8_putBack 28 rfl
theorem dX8_putBack_51 : decode cX8_putBack 51 = .ok (.iload_n 3, 1) := allD_get dtX8_putBack 29 rfl
theorem dX8_putBack_52 : decode cX8_putBack 52 = .ok (.iaload, 1) := allD_get dtX8_putBack 30 rfl
theorem dX8_putBack_53 : decode cX8_putBack 53 = .ok (.aload_n 0, 1) := allD_get dtX8_putBack 31 rfl
theorem dX8_putBack_54 : decode cX8_putBack 54 = .ok (.iload_n 1, 1) := allD_get dtX8_putBack 32 rfl
theorem dX8_putBack_55 : decode cX8_putBack 55 = .ok (.iload_n 3, 1) := allD_get dtX8_putBack 33 rfl
theorem dX8_putBack_56 : decode cX8_putBack 56 = .ok (.invokevirtual 143, 3) := allD_get dtX8_putBack 34 rfl
theorem dX8_putBack_59 : decode cX8_putBack 59 = .ok (.if_icmp .ne 7, 3) := allD_get dtX8_putBack 35 rfl
theorem dX8_putBack_62 : decode cX8_putBack 62 = .ok (.iconst 1, 1) := allD_get dtX8_putBack 36 rfl
theorem dX8_putBack_63 : decode cX8_putBack 63 = .ok (.goto 4, 3) := allD_get dtX8_putBack 37 rfl
theorem dX8_putBack_66 : decode cX8_putBack 66 = .ok (.iconst 0, 1) := allD_get dtX8_putBack 38 rfl
theorem dX8_putBack_67 : decode cX8_putBack 67 = .ok (.istore_n 2, 1) := allD_get dtX8_putBack 39 rfl
theorem dX8_putBack_68 : decode cX8_putBack 68 = .ok (.iinc 3 1, 3) := allD_get dtX8_putBack 40 rfl
theorem dX8_putBack_71 : decode cX8_putBack 71 = .ok (.goto (-51), 3) := allD_get dtX8_putBack 41 rfl
theorem dX8_putBack_74 : decode cX8_putBack 74 = .ok (.iload_n 2, 1) := allD_get dtX8_putBack 42 rfl
theorem dX8_putBack_75 : decode cX8_putBack 75 = .ok (.ifCond .eq 6, 3) := allD_get dtX8_putBack 43 rfl
theorem dX8_putBack_78 : decode cX8_putBack 78 = .ok (.bipush (-5), 2) := allD_get dtX8_putBack 44 rfl
theorem dX8_putBack_80 : decode cX8_putBack 80 = .ok (.ireturn, 1) := allD_get dtX8_putBack 45 rfl
theorem dX8_putBack_81 : decode cX8_putBack 81 = .ok (.aload_n 0, 1) := allD_get dtX8_putBack 46 rfl
theorem dX8_putBack_82 : decode cX8_putBack 82 = .ok (.invokevirtual 155, 3) := allD_get dtX8_putBack 47 rfl
theorem dX8_putBack_85 : decode cX8_putBack 85 = .ok (.iconst 0, 1) := allD_get dtX8_putBack 48 rfl
theorem dX8_putBack_86 : decode cX8_putBack 86 = .ok (.istore_n 3, 1) := allD_get dtX8_putBack 49 rfl
theorem dX8_putBack_87 : decode cX8_putBack 87 = .ok (.iload_n 3, 1) := allD_get dtX8_putBack 50 rfl
theorem dX8_putBack_88 : decode cX8_putBack 88 = .ok (.aload_n 0, 1) := allD_get dtX8_putBack 51 rfl
theorem dX8_putBack_89 : decode cX8_putBack 89 = .ok (.invokevirtual 152, 3) := allD_get dtX8_putBack 52 rfl
theorem dX8_putBack_92 : decode cX8_putBack 92 = .ok (.if_icmp .ge 71, 3) := allD_get dtX8_putBack 53 rfl
theorem dX8_putBack_95 : decode cX8_putBack 95 = .ok (.iload_n 3, 1) := allD_get dtX8_putBack 54 rfl
theorem dX8_putBack_96 : decode cX8_putBack 96 = .ok (.iload_n 1, 1) := allD_get dtX8_putBack 55 rfl
theorem dX8_putBack_97 : decode cX8_putBack 97 = .ok (.if_icmp .eq 11, 3) := allD_get dtX8_putBack 56 rfl
theorem dX8_putBack_100 : decode cX8_putBack 100 = .ok (.aload_n 0, 1) := allD_get dtX8_putBack 57 rfl
theorem dX8_putBack_101 : decode cX8_putBack 101 = .ok (.iload_n 3, 1) := allD_get dtX8_putBack 58 rfl
theorem dX8_putBack_102 : decode cX8_putBack 102 = .ok (.invokevirtual 158, 3) := allD_get dtX8_putBack 59 rfl
theorem dX8_putBack_105 : decode cX8_putBack 105 = .ok (.goto 52, 3) := allD_get dtX8_putBack 60 rfl
theorem dX8_putBack_108 : decode cX8_putBack 108 = .ok (.aload_n 0, 1) := allD_get dtX8_putBack 61 rfl
theorem dX8_putBack_109 : decode cX8_putBack 109 = .ok (.aload_n 0, 1) := allD_get dtX8_putBack 62 rfl
theorem dX8_putBack_110 : decode cX8_putBack 110 = .ok (.getfield 7, 3) := allD_get dtX8_putBack 63 rfl
theorem dX8_putBack_113 : decode cX8_putBack 113 = .ok (.bipush 17, 2) := allD_get dtX8_putBack 64 rfl
theorem dX8_putBack_115 : decode cX8_putBack 115 = .ok (.iload_n 1, 1) := allD_get dtX8_putBack 65 rfl
theorem dX8_putBack_116 : decode cX8_putBack 116 = .ok (.iadd, 1) := allD_get dtX8_putBack 66 rfl
theorem dX8_putBack_117 : decode cX8_putBack 117 = .ok (.iaload, 1) := allD_get dtX8_putBack 67 rfl
theorem dX8_putBack_118 : decode cX8_putBack 118 = .ok (.invokevirtual 131, 3) := allD_get dtX8_putBack 68 rfl
theorem dX8_putBack_121 : decode cX8_putBack 121 = .ok (.iconst 0, 1) := allD_get dtX8_putBack 69 rfl
theorem dX8_putBack_122 : decode cX8_putBack 122 = .ok (.istore 4, 2) := allD_get dtX8_putBack 70 rfl
theorem dX8_putBack_124 : decode cX8_putBack 124 = .ok (.iload 4, 2) := allD_get dtX8_putBack 71 rfl
theorem dX8_putBack_126 : decode cX8_putBack 126 = .ok (.aload_n 0, 1) := allD_get dtX8_putBack 72 rfl
theorem dX8_putBack_127 : decode cX8_putBack 127 = .ok (.getfield 167, 3) := allD_get dtX8_putBack 73 rfl
theorem dX8_putBack_130 : decode cX8_putBack 130 = .ok (.if_icmp .ge 27, 3) := allD_get dtX8_putBack 74 rfl
theorem dX8_putBack_133 : decode cX8_putBack 133 = .ok (.aload_n 0, 1) := allD_get dtX8_putBack 75 rfl
theorem dX8_putBack_134 : decode cX8_putBack 134 = .ok (.aload_n 0, 1) := allD_get dtX8_putBack 76 rfl
theorem dX8_putBack_135 : decode cX8_putBack 135 = .ok (.getfield 42, 3) := allD_get dtX8_putBack 77 rfl
theorem dX8_putBack_138 : decode cX8_putBack 138 = .ok (.iload 4, 2) := allD_get dtX8_putBack 78 rfl
theorem dX8_putBack_140 : decode cX8_putBack 140 = .ok (.iaload, 1) := allD_get dtX8_putBack 79 rfl
theorem dX8_putBack_141 : decode cX8_putBack 141 = .ok (.aload_n 0, 1) := allD_get dtX8_putBack 80 rfl
theorem dX8_putBack_142 : decode cX8_putBack 142 = .ok (.getfield 45, 3) := allD_get dtX8_putBack 81 rfl
theorem dX8_putBack_145 : decode cX8_putBack 145 = .ok (.iload 4, 2) := allD_get dtX8_putBack 82 rfl
theorem dX8_putBack_147 : decode cX8_putBack 147 = .ok (.iaload, 1) := allD_get dtX8_putBack 83 rfl
theorem dX8_putBack_148 : decode cX8_putBack 148 = .ok (.invokevirtual 146, 3) := allD_get dtX8_putBack 84 rfl
theorem dX8_putBack_151 : decode cX8_putBack 151 = .ok (.iinc 4 1, 3) := allD_get dtX8_putBack 85 rfl
theorem dX8_putBack_154 : decode cX8_putBack 154 = .ok (.goto (-30), 3) := allD_get dtX8_putBack 86 rfl
theorem dX8_putBack_157 : decode cX8_putBack 157 = .ok (.iinc 3 1, 3) := allD_get dtX8_putBack 87 rfl
theorem dX8_putBack_160 : decode cX8_putBack 160 = .ok (.goto (-73), 3) := allD_get dtX8_putBack 88 rfl
theorem dX8_putBack_163 : decode cX8_putBack 163 = .ok (.aload_n 0, 1) := allD_get dtX8_putBack 89 rfl
theorem dX8_putBack_164 : decode cX8_putBack 164 = .ok (.invokevirtual 161, 3) := allD_get dtX8_putBack 90 rfl
theorem dX8_putBack_167 : decode cX8_putBack 167 = .ok (.aload_n 0, 1) := allD_get dtX8_putBack 91 rfl
theorem dX8_putBack_168 : decode cX8_putBack 168 = .ok (.getfield 167, 3) := allD_get dtX8_putBack 92 rfl
theorem dX8_putBack_171 : decode cX8_putBack 171 = .ok (.ireturn, 1) := allD_get dtX8_putBack 93 rfl
def tbX8_smoothOnce : List (Nat × Instr × Nat) := [(0, .iconst 1, 1), (1, .istore_n 1, 1), (2, .iload_n 1, 1), (3, .iconst 1, 1), (4, .iadd, 1), (5, .aload_n 0, 1), (6, .getfield 167, 3), (9, .if_icmp .ge 77, 3), (12, .aload_n 0, 1), (13, .getfield 48, 3), (16, .iload_n 1, 1), (17, .aload_n 0, 1), (18, .getfield 42, 3), (21, .iload_n 1, 1), (22, .iconst 1, 1), (23, .isub, 1), (24, .iaload, 1), (25, .iconst 2, 1), (26, .aload_n 0, 1), (27, .getfield 42, 3), (30, .iload_n 1, 1), (31, .iaload, 1), (32, .imul, 1), (33, .iadd, 1), (34, .aload_n 0, 1), (35, .getfield 42, 3), (38, .iload_n 1, 1), (39, .iconst 1, 1), (40, .iadd, 1), (41, .iaload, 1), (42, .iadd, 1), (43, .iconst 4, 1), (44, .idiv, 1), (45, .iastore, 1), (46, .aload_n 0, 1), (47, .getfield 51, 3), (50, .iload_n 1, 1), (51, .aload_n 0, 1), (52, .getfield 45, 3), (55, .iload_n 1, 1), (56, .iconst 1, 1), (57, .isub, 1), (58, .iaload, 1), (59, .iconst 2, 1), (60, .aload_n 0, 1), (61, .getfield 45, 3), (64, .iload_n 1, 1), (65, .iaload, 1), (66, .imul, 1), (67, .iadd, 1), (68, .aload_n 0, 1), (69, .getfield 45, 3), (72, .iload_n 1, 1), (73, .iconst 1, 1), (74, .iadd, 1), (75, .iaload, 1), (76, .iadd, 1), (77, .iconst 4, 1), (78, .idiv, 1), (79, .iastore, 1), (80, .iinc 1 1, 3), (83, .goto (-81), 3), (86, .iconst 1, 1), (87, .istore_n 1, 1), (88, .iload_n 1, 1), (89, .iconst 1, 1), (90, .iadd, 1), (91, .aload_n 0, 1), (92, .getfield 167, 3), (95, .if_icmp .ge 33, 3), (98, .aload_n 0, 1), (99, .getfield 42, 3), (102, .iload_n 1, 1), (103, .aload_n 0, 1), (104, .getfield 48, 3), (107, .iload_n 1, 1), (108, .iaload, 1), (109, .iastore, 1), (110, .aload_n 0, 1), (111, .getfield 45, 3), (114, .iload_n 1, 1), (115, .aload_n 0, 1), (116, .getfield 51, 3), (119, .iload_n 1, 1), (120, .iaload, 1), (121, .iastore, 1), (122, .iinc 1 1, 3), (125, .goto (-37), 3), (128, .return_, 1)]
set_option maxRecDepth 100000 in
theorem dtX8_smoothOnce : allD cX8_smoothOnce tbX8_smoothOnce = true := by decide +kernel
theorem dX8_smoothOnce_0 : decode cX8_smoothOnce 0 = .ok (.iconst 1, 1) := allD_get dtX8_smoothOnce 0 rfl
theorem dX8_smoothOnce_1 : decode cX8_smoothOnce 1 = .ok (.istore_n 1, 1) := allD_get dtX8_smoothOnce 1 rfl
theorem dX8_smoothOnce_2 : decode cX8_smoothOnce 2 = .ok (.iload_n 1, 1) := allD_get dtX8_smoothOnce 2 rfl
theorem dX8_smoothOnce_3 : decode cX8_smoothOnce 3 = .ok (.iconst 1, 1) := allD_get dtX8_smoothOnce 3 rfl
theorem dX8_smoothOnce_4 : decode cX8_smoothOnce 4 = .ok (.iadd, 1) := allD_get dtX8_smoothOnce 4 rfl
theorem dX8_smoothOnce_5 : decode cX8_smoothOnce 5 = .ok (.aload_n 0, 1) := allD_get dtX8_smoothOnce 5 rfl
theorem dX8_smoothOnce_6 : decode cX8_smoothOnce 6 = .ok (.getfield 167, 3) := allD_get dtX8_smoothOnce 6 rfl
theorem dX8_smoothOnce_9 : decode cX8_smoothOnce 9 = .ok (.if_icmp .ge 77, 3) := allD_get dtX8_smoothOnce 7 rfl
theorem dX8_smoothOnce_12 : decode cX8_smoothOnce 12 = .ok (.aload_n 0, 1) := allD_get dtX8_smoothOnce 8 rfl
theorem dX8_smoothOnce_13 : decode cX8_smoothOnce 13 = .ok (.getfield 48, 3) := allD_get dtX8_smoothOnce 9 rfl
theorem dX8_smoothOnce_16 : decode cX8_smoothOnce 16 = .ok (.iload_n 1, 1) := allD_get dtX8_smoothOnce 10 rfl
theorem dX8_smoothOnce_17 : decode cX8_smoothOnce 17 = .ok (.aload_n 0, 1) := allD_get dtX8_smoothOnce 11 rfl
theorem dX8_smoothOnce_18 : decode cX8_smoothOnce 18 = .ok (.getfield 42, 3) := allD_get dtX8_smoothOnce 12 rfl
theorem dX8_smoothOnce_21 : decode cX8_smoothOnce 21 = .ok (.iload_n 1, 1) := allD_get dtX8_smoothOnce 13 rfl
theorem dX8_smoothOnce_22 : decode cX8_smoothOnce 22 = .ok (.iconst 1, 1) := allD_get dtX8_smoothOnce 14 rfl
theorem dX8_smoothOnce_23 : decode cX8_smoothOnce 23 = .ok (.isub, 1) := allD_get dtX8_smoothOnce 15 rfl
theorem dX8_smoothOnce_24 : decode cX8_smoothOnce 24 = .ok (.iaload, 1) := allD_get dtX8_smoothOnce 16 rfl
theorem dX8_smoothOnce_25 : decode cX8_smoothOnce 25 = .ok (.iconst 2, 1) := allD_get dtX8_smoothOnce 17 rfl
theorem dX8_smoothOnce_26 : decode cX8_smoothOnce 26 = .ok (.aload_n 0, 1) := allD_get dtX8_smoothOnce 18 rfl
theorem dX8_smoothOnce_27 : decode cX8_smoothOnce 27 = .ok (.getfield 42, 3) := allD_get dtX8_smoothOnce 19 rfl
theorem dX8_smoothOnce_30 : decode cX8_smoothOnce 30 = .ok (.iload_n 1, 1) := allD_get dtX8_smoothOnce 20 rfl
theorem dX8_smoothOnce_31 : decode cX8_smoothOnce 31 = .ok (.iaload, 1) := allD_get dtX8_smoothOnce 21 rfl
theorem dX8_smoothOnce_32 : decode cX8_smoothOnce 32 = .ok (.imul, 1) := allD_get dtX8_smoothOnce 22 rfl
theorem dX8_smoothOnce_33 : decode cX8_smoothOnce 33 = .ok (.iadd, 1) := allD_get dtX8_smoothOnce 23 rfl
theorem dX8_smoothOnce_34 : decode cX8_smoothOnce 34 = .ok (.aload_n 0, 1) := allD_get dtX8_smoothOnce 24 rfl
theorem dX8_smoothOnce_35 : decode cX8_smoothOnce 35 = .ok (.getfield 42, 3) := allD_get dtX8_smoothOnce 25 rfl
theorem dX8_smoothOnce_38 : decode cX8_smoothOnce 38 = .ok (.iload_n 1, 1) := allD_get dtX8_smoothOnce 26 rfl
theorem dX8_smoothOnce_39 : decode cX8_smoothOnce 39 = .ok (.iconst 1, 1) := allD_get dtX8_smoothOnce 27 rfl
theorem dX8_smoothOnce_40 : decode cX8_smoothOnce 40 = .ok (.iadd, 1) := allD_get dtX8_smoothOnce 28 rfl
theorem dX8_smoothOnce_41 : decode cX8_smoothOnce 41 = .ok (.iaload, 1) := allD_get dtX8_smoothOnce 29 rfl
theorem dX8_smoothOnce_42 : decode cX8_smoothOnce 42 = .ok (.iadd, 1) := allD_get dtX8_smoothOnce 30 rfl
theorem dX8_smoothOnce_43 : decode cX8_smoothOnce 43 = .ok (.iconst 4, 1) := allD_get dtX8_smoothOnce 31 rfl
theorem dX8_smoothOnce_44 : decode cX8_smoothOnce 44 = .ok (.idiv, 1) := allD_get dtX8_smoothOnce 32 rfl
theorem dX8_smoothOnce_45 : decode cX8_smoothOnce 45 = .ok (.iastore, 1) := allD_get dtX8_smoothOnce 33 rfl
theorem dX8_smoothOnce_46 : decode cX8_smoothOnce 46 = .ok (.aload_n 0, 1) := allD_get dtX8_smoothOnce 34 rfl
theorem dX8_smoothOnce_47 : decode cX8_smoothOnce 47 = .ok (.getfield 51, 3) := allD_get dtX8_smoothOnce 35 rfl
theorem dX8_smoothOnce_50 : decode cX8_smoothOnce 50 = .ok (.iload_n 1, 1) := allD_get dtX8_smoothOnce 36 rfl
theorem dX8_smoothOnce_51 : decode cX8_smoothOnce 51 = .ok (.aload_n 0, 1) := allD_get dtX8_smoothOnce 37 rfl
theorem dX8_smoothOnce_52 : decode cX8_smoothOnce 52 = .ok (.getfield 45, 3) := allD_get dtX8_smoothOnce 38 rfl
theorem dX8_smoothOnce_55 : decode cX8_smoothOnce 55 = .ok (.iload_n 1, 1) := allD_get dtX8_smoothOnce 39 rfl
theorem dX8_smoothOnce_56 : decode cX8_smoothOnce 56 = .ok (.iconst 1, 1) := allD_get dtX8_smoothOnce 40 rfl
theorem dX8_smoothOnce_57 : decode cX8_smoothOnce 57 = .ok (.isub, 1) := allD_get dtX8_smoothOnce 41 rfl
theorem dX8_smoothOnce_58 : decode cX8_smoothOnce 58 = .ok (.iaload, 1) := allD_get dtX8_smoothOnce 42 rfl
theorem dX8_smoothOnce_59 : decode cX8_smoothOnce 59 = .ok (.iconst 2, 1) := allD_get dtX8_smoothOnce 43 rfl
theorem dX8_smoothOnce_60 : decode cX8_smoothOnce 60 = .ok (.aload_n 0, 1) := allD_get dtX8_smoothOnce 44 rfl
theorem dX8_smoothOnce_61 : decode cX8_smoothOnce 61 = .ok (.getfield 45, 3) := allD_get dtX8_smoothOnce 45 rfl
theorem dX8_smoothOnce_64 : decode cX8_smoothOnce 64 = .ok (.iload_n 1, 1) := allD_get dtX8_smoothOnce 46 rfl
theorem dX8_smoothOnce_65 : decode cX8_smoothOnce 65 = .ok (.iaload, 1) := allD_get dtX8_smoothOnce 47 rfl
theorem dX8_smoothOnce_66 : decode cX8_smoothOnce 66 = .ok (.imul, 1) := allD_get dtX8_smoothOnce 48 rfl
theorem dX8_smoothOnce_67 : decode cX8_smoothOnce 67 = .ok (.iadd, 1) := allD_get dtX8_smoothOnce 49 rfl
theorem dX8_smoothOnce_68 : decode cX8_smoothOnce 68 = .ok (.aload_n 0, 1) := allD_get dtX8_smoothOnce 50 rfl
theorem dX8_smoothOnce_69 : decode cX8_smoothOnce 69 = .ok (.getfield 45, 3) := allD_get dtX8_smoothOnce 51 rfl
theorem dX8_smoothOnce_72 : decode cX8_smoothOnce 72 = .ok (.iload_n 1, 1) := allD_get dtX8_smoothOnce 52 rfl
theorem dX8_smoothOnce_73 : decode cX8_smoothOnce 73 = .ok (.iconst 1, 1) := allD_get dtX8_smoothOnce 53 rfl
theorem dX8_smoothOnce_74 : decode cX8_smoothOnce 74 = .ok (.iadd, 1) := allD_get dtX8_smoothOnce 54 rfl
theorem dX8_smoothOnce_75 : decode cX8_smoothOnce 75 = .ok (.iaload, 1) := allD_get dtX8_smoothOnce 55 rfl
theorem dX8_smoothOnce_76 : decode cX8_smoothOnce 76 = .ok (.iadd, 1) := allD_get dtX8_smoothOnce 56 rfl
theorem dX8_smoothOnce_77 : decode cX8_smoothOnce 77 = .ok (.iconst 4, 1) := allD_get dtX8_smoothOnce 57 rfl
theorem dX8_smoothOnce_78 : decode cX8_smoothOnce 78 = .ok (.idiv, 1) := allD_get dtX8_smoothOnce 58 rfl
theorem dX8_smoothOnce_79 : decode cX8_smoothOnce 79 = .ok (.iastore, 1) := allD_get dtX8_smoothOnce 59 rfl
theorem dX8_smoothOnce_80 : decode cX8_smoothOnce 80 = .ok (.iinc 1 1, 3) := allD_get dtX8_smoothOnce 60 rfl
theorem dX8_smoothOnce_83 : decode cX8_smoothOnce 83 = .ok (.goto (-81), 3) := allD_get dtX8_smoothOnce 61 rfl
theorem dX8_smoothOnce_86 : decode cX8_smoothOnce 86 = .ok (.iconst 1, 1) := allD_get dtX8_smoothOnce 62 rfl
theorem dX8_smoothOnce_87 : decode cX8_smoothOnce 87 = .ok (.istore_n 1, 1) := allD_get dtX8_smoothOnce 63 rfl
theorem dX8_smoothOnce_88 : decode cX8_smoothOnce 88 = .ok (.iload_n 1, 1) := allD_get dtX8_smoothOnce 64 rfl
theorem dX8_smoothOnce_89 : decode cX8_smoothOnce 89 = .ok (.iconst 1, 1) := allD_get dtX8_smoothOnce 65 rfl
theorem dX8_smoothOnce_90 : decode cX8_smoothOnce 90 = .ok (.iadd, 1) := allD_get dtX8_smoothOnce 66 rfl
theorem dX8_smoothOnce_91 : decode cX8_smoothOnce 91 = .ok (.aload_n 0, 1) := allD_get dtX8_smoothOnce 67 rfl
theorem dX8_smoothOnce_92 : decode cX8_smoothOnce 92 = .ok (.getfield 167, 3) := allD_get dtX8_smoothOnce 68 rfl
theorem dX8_smoothOnce_95 : decode cX8_smoothOnce 95 = .ok (.if_icmp .ge 33, 3) := allD_get dtX8_smoothOnce 69 rfl
theorem dX8_smoothOnce_98 : decode cX8_smoothOnce 98 = .ok (.aload_n 0, 1) := allD_get dtX8_smoothOnce 70 rfl
theorem dX8_smoothOnce_99 : decode cX8_smoothOnce 99 = .ok (.getfield 42, 3) := allD_get dtX8_smoothOnce 71 rfl
theorem dX8_smoothOnce_102 : decode cX8_smoothOnce 102 = .ok (.iload_n 1, 1) := allD_get dtX8_smoothOnce 72 rfl
theorem dX8_smoothOnce_103 : decode cX8_smoothOnce 103 = .ok (.aload_n 0, 1) := allD_get dtX8_smoothOnce 73 rfl
theorem dX8_smoothOnce_104 : decode cX8_smoothOnce 104 = .ok (.getfield 48, 3) := allD_get dtX8_smoothOnce 74 rfl
theorem dX8_smoothOnce_107 : decode cX8_smoothOnce 107 = .ok (.iload_n 1, 1) := allD_get dtX8_smoothOnce 75 rfl
theorem dX8_smoothOnce_108 : decode cX8_smoothOnce 108 = .ok (.iaload, 1) := allD_get dtX8_smoothOnce 76 rfl
theorem dX8_smoothOnce_109 : decode cX8_smoothOnce 109 = .ok (.iastore, 1) := allD_get dtX8_smoothOnce 77 rfl
theorem dX8_smoothOnce_110 : decode cX8_smoothOnce 110 = .ok (.aload_n 0, 1) := allD_get dtX8_smoothOnce 78 rfl
theorem dX8_smoothOnce_111 : decode cX8_smoothOnce 111 = .ok (.getfield 45, 3) := allD_get dtX8_smoothOnce 79 rfl
theorem dX8_smoothOnce_114 : decode cX8_smoothOnce 114 = .ok (.iload_n 1, 1) := allD_get dtX8_smoothOnce 80 rfl
theorem dX8_smoothOnce_115 : decode cX8_smoothOnce 115 = .ok (.aload_n 0, 1) := allD_get dtX8_smoothOnce 81 rfl
theorem dX8_smoothOnce_116 : decode cX8_smoothOnce 116 = .ok (.getfield 51, 3) := allD_get dtX8_smoothOnce 82 rfl
theorem dX8_smoothOnce_119 : decode cX8_smoothOnce 119 = .ok (.iload_n 1, 1) := allD_get dtX8_smoothOnce 83 rfl
theorem dX8_smoothOnce_120 : decode cX8_smoothOnce 120 = .ok (.iaload, 1) := allD_get dtX8_smoothOnce 84 rfl
theorem dX8_smoothOnce_121 : decode cX8_smoothOnce 121 = .ok (.iastore, 1) := allD_get dtX8_smoothOnce 85 rfl
theorem dX8_smoothOnce_122 : decode cX8_smoothOnce 122 = .ok (.iinc 1 1, 3) := allD_get dtX8_smoothOnce 86 rfl
theorem dX8_smoothOnce_125 : decode cX8_smoothOnce 125 = .ok (.goto (-37), 3) := allD_get dtX8_smoothOnce 87 rfl
theorem dX8_smoothOnce_128 : decode cX8_smoothOnce 128 = .ok (.return_, 1) := allD_get dtX8_smoothOnce 88 rfl
def tbX8_smooth : List (Nat × Instr × Nat) := [(0, .aload_n 0, 1), (1, .iload_n 1, 1), (2, .invokevirtual 170, 3), (5, .ifCond .eq 5, 3), (8, .iconst (-1), 1), (9, .ireturn, 1), (10, .iload_n 2, 1), (11, .iconst 1, 1), (12, .bipush 8, 2), (14, .invokestatic 75, 3), (17, .ifCond .ne 6, 3), (20, .bipush (-2), 2), (22, .ireturn, 1), (23, .aload_n 0, 1), (24, .iload_n 1, 1), (25, .invokevirtual 173, 3), (28, .iconst 0, 1), (29, .istore_n 3, 1), (30, .iload_n 3, 1), (31, .iload_n 2, 1), (32, .if_icmp .ge 13, 3), (35, .aload_n 0, 1), (36, .invokevirtual 176, 3), (39, .iinc 3 1, 3), (42, .goto (-12), 3), (45, .aload_n 0, 1), (46, .invokevirtual 179, 3), (49, .aload_n 0, 1), (50, .iload_n 1, 1), (51, .invokevirtual 182, 3), (54, .ireturn, 1)]
set_option maxRecDepth 100000 in
theorem dtX8_smooth : allD cX8_smooth tbX8_smooth = true := by decide +kernel
theorem dX8_smooth_0 : decode cX8_smooth 0 = .ok (.aload_n 0, 1) := allD_get dtX8_smooth 0 rfl
theorem dX8_smooth_1 : decode cX8_smooth 1 = .ok (.iload_n 1, 1) := allD_get dtX8_smooth 1 rfl
theorem dX8_smooth_2 : decode cX8_smooth 2 = .ok (.invokevirtual 170, 3) := allD_get dtX8_smooth 2 rfl
theorem dX8_smooth_5 : decode cX8_smooth 5 = .ok (.ifCond .eq 5, 3) := allD_get dtX8_smooth 3 rfl
theorem dX8_smooth_8 : decode cX8_smooth 8 = .ok (.iconst (-1), 1) := allD_get dtX8_smooth 4 rfl
theorem dX8_smooth_9 : decode cX8_smooth 9 = .ok (.ireturn, 1) := allD_get dtX8_smooth 5 rfl
theorem dX8_smooth_10 : decode cX8_smooth 10 = .ok (.iload_n 2, 1) := allD_get dtX8_smooth 6 rfl
theorem dX8_smooth_11 : decode cX8_smooth 11 = .ok (.iconst 1, 1) := allD_get dtX8_smooth 7 rfl
theorem dX8_smooth_12 : decode cX8_smooth 12 = .ok (.bipush 8, 2) := allD_get dtX8_smooth 8 rfl
theorem dX8_smooth_14 : decode cX8_smooth 14 = .ok (.invokestatic 75, 3) := allD_get dtX8_smooth 9 rfl
theorem dX8_smooth_17 : decode cX8_smooth 17 = .ok (.ifCond .ne 6, 3) := allD_get dtX8_smooth 10 rfl
theorem dX8_smooth_20 : decode cX8_smooth 20 = .ok (.bipush (-2), 2) := allD_get dtX8_smooth 11 rfl
theorem dX8_smooth_22 : decode cX8_smooth 22 = .ok (.ireturn, 1) := allD_get dtX8_smooth 12 rfl
theorem dX8_smooth_23 : decode cX8_smooth 23 = .ok (.aload_n 0, 1) := allD_get dtX8_smooth 13 rfl
theorem dX8_smooth_24 : decode cX8_smooth 24 = .ok (.iload_n 1, 1) := allD_get dtX8_smooth 14 rfl
theorem dX8_smooth_25 : decode cX8_smooth 25 = .ok (.invokevirtual 173, 3) := allD_get dtX8_smooth 15 rfl
theorem dX8_smooth_28 : decode cX8_smooth 28 = .ok (.iconst 0, 1) := allD_get dtX8_smooth 16 rfl
theorem dX8_smooth_29 : decode cX8_smooth 29 = .ok (.istore_n 3, 1) := allD_get dtX8_smooth 17 rfl
theorem dX8_smooth_30 : decode cX8_smooth 30 = .ok (.iload_n 3, 1) := allD_get dtX8_smooth 18 rfl
theorem dX8_smooth_31 : decode cX8_smooth 31 = .ok (.iload_n 2, 1) := allD_get dtX8_smooth 19 rfl
theorem dX8_smooth_32 : decode cX8_smooth 32 = .ok (.if_icmp .ge 13, 3) := allD_get dtX8_smooth 20 rfl
theorem dX8_smooth_35 : decode cX8_smooth 35 = .ok (.aload_n 0, 1) := allD_get dtX8_smooth 21 rfl
theorem dX8_smooth_36 : decode cX8_smooth 36 = .ok (.invokevirtual 176, 3) := allD_get dtX8_smooth 22 rfl
theorem dX8_smooth_39 : decode cX8_smooth 39 = .ok (.iinc 3 1, 3) := allD_get dtX8_smooth 23 rfl
theorem dX8_smooth_42 : decode cX8_smooth 42 = .ok (.goto (-12), 3) := allD_get dtX8_smooth 24 rfl
theorem dX8_smooth_45 : decode cX8_smooth 45 = .ok (.aload_n 0, 1) := allD_get dtX8_smooth 25 rfl
theorem dX8_smooth_46 : decode cX8_smooth 46 = .ok (.invokevirtual 179, 3) := allD_get dtX8_smooth 26 rfl
theorem dX8_smooth_49 : decode cX8_smooth 49 = .ok (.aload_n 0, 1) := allD_get dtX8_smooth 27 rfl
theorem dX8_smooth_50 : decode cX8_smooth 50 = .ok (.iload_n 1, 1) := allD_get dtX8_smooth 28 rfl
theorem dX8_smooth_51 : decode cX8_smooth 51 = .ok (.invokevirtual 182, 3) := allD_get dtX8_smooth 29 rfl
theorem dX8_smooth_54 : decode cX8_smooth 54 = .ok (.ireturn, 1) := allD_get dtX8_smooth 30 rfl
def tbX8_thin : List (Nat × Instr × Nat) := [(0, .aload_n 0, 1), (1, .iload_n 1, 1), (2, .invokevirtual 170, 3), (5, .ifCond .eq 5, 3), (8, .iconst (-1), 1), (9, .ireturn, 1), (10, .iload_n 2, 1), (11, .iconst 1, 1), (12, .sipush 500, 3), (15, .invokestatic 75, 3), (18, .ifCond .ne 6, 3), (21, .bipush (-2), 2), (23, .ireturn, 1), (24, .aload_n 0, 1), (25, .iload_n 1, 1), (26, .invokevirtual 173, 3), (29, .iconst 1, 1), (30, .istore_n 3, 1), (31, .iconst 1, 1), (32, .istore 4, 2), (34, .iload 4, 2), (36, .aload_n 0, 1), (37, .getfield 167, 3), (40, .if_icmp .ge 102, 3), (43, .iload 4, 2), (45, .iconst 1, 1), (46, .iadd, 1), (47, .aload_n 0, 1), (48, .getfield 167, 3), (51, .if_icmp .ge 48, 3), (54, .aload_n 0, 1), (55, .getfield 42, 3), (58, .iload 4, 2), (60, .iaload, 1), (61, .aload_n 0, 1), (62, .getfield 42, 3), (65, .iload_n 3, 1), (66, .iconst 1, 1), (67, .isub, 1), (68, .iaload, 1), (69, .isub, 1), (70, .aload_n 0, 1), (71, .getfield 45, 3), (74, .iload 4, 2), (76, .iaload, 1), (77, .aload_n 0, 1), (78, .getfield 45, 3), (81, .iload_n 3, 1), (82, .iconst 1, 1), (83, .isub, 1), (84, .iaload, 1), (85, .isub, 1), (86, .invokestatic 164, 3), (89, .iload_n 2, 1), (90, .iload_n 2, 1), (91, .imul, 1), (92, .if_icmp .ge 7, 3), (95, .iconst 1, 1), (96, .goto 4, 3), (99, .iconst 0, 1), (100, .istore 5, 2), (102, .iload 5, 2), (104, .ifCond .ne 32, 3), (107, .aload_n 0, 1), (108, .getfield 42, 3), (111, .iload_n 3, 1), (112, .aload_n 0, 1), (113, .getfield 42, 3), (116, .iload 4, 2), (118, .iaload, 1), (119, .iastore, 1), (120, .aload_n 0, 1), (121, .getfield 45, 3), (124, .iload_n 3, 1), (125, .aload_n 0, 1), (126, .getfield 45, 3), (129, .iload 4, 2), (131, .iaload, 1), (132, .iastore, 1), (133, .iinc 3 1, 3), (136, .iinc 4 1, 3), (139, .goto (-105), 3), (142, .aload_n 0, 1), (143, .iload_n 3, 1), (144, .putfield 167, 3), (147, .aload_n 0, 1), (148, .invokevirtual 179, 3), (151, .aload_n 0, 1), (152, .iload_n 1, 1), (153, .invokevirtual 182, 3), (156, .ireturn, 1)]
set_option maxRecDepth 100000 in
theorem dtX8_thin : allD cX8_thin tbX8_thin = true := by decide +kernel
theorem dX8_thin_0 : decode cX8_thin 0 = .ok (.aload_n 0, 1) := allD_get dtX8_thin 0 rfl
theorem dX8_thin_1 : decode cX8_thin 1 = .ok (.iload_n 1, 1) := allD_get dtX8_thin 1 rfl
theorem dX8_thin_2 : decode cX8_thin 2 = .ok (.invokevirtual 170, 3) := allD_get dtX8_thin 2 rfl
theorem dX8_thin_5 : decode cX8_thin 5 = .ok (.ifCond .eq 5, 3) := allD_get dtX8_thin 3 rfl
theorem dX8_thin_8 : decode cX8_thin 8 = .ok (.iconst (-1), 1) := allD_get dtX8_thin 4 rfl
theorem dX8_thin_9 : decode cX8_thin 9 = .ok (.ireturn, 1) := allD_get dtX8_thin 5 rfl
theorem dX8_thin_10 : decode cX8_thin 10 = .ok (.iload_n 2, 1) := allD_get dtX8_thin 6 rfl
theorem dX8_thin_11 : decode cX8_thin 11 = .ok (.iconst 1, 1) := allD_get dtX8_thin 7 rfl
theorem dX8_thin_12 : decode cX8_thin 12 = .ok (.sipush 500, 3) := allD_get dtX8_thin 8 rfl
theorem dX8_thin_15 : decode cX8_thin 15 = .ok (.invokestatic 75, 3) := allD_get dtX8_thin 9 rfl
theorem dX8_thin_18 : decode cX8_thin 18 = .ok (.ifCond .ne 6, 3) := allD_get dtX8_thin 10 rfl
theorem dX8_thin_21 : decode cX8_thin 21 = .ok (.bipush (-2), 2) := allD_get dtX8_thin 11 rfl
theorem dX8_thin_23 : decode cX8_thin 23 = .ok (.ireturn, 1) := allD_get dtX8_thin 12 rfl
theorem dX8_thin_24 : decode cX8_thin 24 = .ok (.aload_n 0, 1) := allD_get dtX8_thin 13 rfl
theorem dX8_thin_25 : decode cX8_thin 25 = .ok (.iload_n 1, 1) := allD_get dtX8_thin 14 rfl
theorem dX8_thin_26 : decode cX8_thin 26 = .ok (.invokevirtual 173, 3) := allD_get dtX8_thin 15 rfl
theorem dX8_thin_29 : decode cX8_thin 29 = .ok (.iconst 1, 1) := allD_get dtX8_thin 16 rfl
theorem dX8_thin_30 : decode cX8_thin 30 = .ok (.istore_n 3, 1) := allD_get dtX8_thin 17 rfl
theorem dX8_thin_31 : decode cX8_thin 31 = .ok (.iconst 1, 1) := allD_get dtX8_thin 18 rfl
theorem dX8_thin_32 : decode cX8_thin 32 = .ok (.istore 4, 2) := allD_get dtX8_thin 19 rfl
theorem dX8_thin_34 : decode cX8_thin 34 = .ok (.iload 4, 2) := allD_get dtX8_thin 20 rfl
theorem dX8_thin_36 : decode cX8_thin 36 = .ok (.aload_n 0, 1) := allD_get dtX8_thin 21 rfl
theorem dX8_thin_37 : decode cX8_thin 37 = .ok (.getfield 167, 3) := allD_get dtX8_thin 22 rfl
theorem dX8_thin_40 : decode cX8_thin 40 = .ok (.if_icmp .ge 102, 3) := allD_get dtX8_thin 23 rfl
theorem dX8_thin_43 : decode cX8_thin 43 = .ok (.iload 4, 2) := allD_get dtX8_thin 24 rfl
theorem dX8_thin_45 : decode cX8_thin 45 = .ok (.iconst 1, 1) := allD_get dtX8_thin 25 rfl
theorem dX8_thin_46 : decode cX8_thin 46 = .ok (.iadd, 1) := allD_get dtX8_thin 26 rfl
theorem dX8_thin_47 : decode cX8_thin 47 = .ok (.aload_n 0, 1) := allD_get dtX8_thin 27 rfl
theorem dX8_thin_48 : decode cX8_thin 48 = .ok (.getfield 167, 3) := allD_get dtX8_thin 28 rfl
theorem dX8_thin_51 : decode cX8_thin 51 = .ok (.if_icmp .ge 48, 3) := allD_get dtX8_thin 29 rfl
theorem dX8_thin_54 : decode cX8_thin 54 = .ok (.aload_n 0, 1) := allD_get dtX8_thin 30 rfl
theorem dX8_thin_55 : decode cX8_thin 55 = .ok (.getfield 42, 3) := allD_get dtX8_thin 31 rfl
theorem dX8_thin_58 : decode cX8_thin 58 = .ok (.iload 4, 2) := allD_get dtX8_thin 32 rfl
theorem dX8_thin_60 : decode cX8_thin 60 = .ok (.iaload, 1) := allD_get dtX8_thin 33 rfl
theorem dX8_thin_61 : decode cX8_thin 61 = .ok (.aload_n 0, 1) := allD_get dtX8_thin 34 rfl
theorem dX8_thin_62 : decode cX8_thin 62 = .ok (.getfield 42, 3) := allD_get dtX8_thin 35 rfl
theorem dX8_thin_65 : decode cX8_thin 65 = .ok (.iload_n 3, 1) := allD_get dtX8_thin 36 rfl
theorem dX8_thin_66 : decode cX8_thin 66 = .ok (.iconst 1, 1) := allD_get dtX8_thin 37 rfl
theorem dX8_thin_67 : decode cX8_thin 67 = .ok (.isub, 1) := allD_get dtX8_thin 38 rfl
theorem dX8_thin_68 : decode cX8_thin 68 = .ok (.iaload, 1) := allD_get dtX8_thin 39 rfl
theorem dX8_thin_69 : decode cX8_thin 69 = .ok (.isub, 1) := allD_get dtX8_thin 40 rfl
theorem dX8_thin_70 : decode cX8_thin 70 = .ok (.aload_n 0, 1) := allD_get dtX8_thin 41 rfl
theorem dX8_thin_71 : decode cX8_thin 71 = .ok (.getfield 45, 3) := allD_get dtX8_thin 42 rfl
theorem dX8_thin_74 : decode cX8_thin 74 = .ok (.iload 4, 2) := allD_get dtX8_thin 43 rfl
theorem dX8_thin_76 : decode cX8_thin 76 = .ok (.iaload, 1) := allD_get dtX8_thin 44 rfl
theorem dX8_thin_77 : decode cX8_thin 77 = .ok (.aload_n 0, 1) := allD_get dtX8_thin 45 rfl
theorem dX8_thin_78 : decode cX8_thin 78 = .ok (.getfield 45, 3) := allD_get dtX8_thin 46 rfl
theorem dX8_thin_81 : decode cX8_thin 81 = .ok (.iload_n 3, 1) := allD_get dtX8_thin 47 rfl
theorem dX8_thin_82 : decode cX8_thin 82 = .ok (.iconst 1, 1) := allD_get dtX8_thin 48 rfl
theorem dX8_thin_83 : decode cX8_thin 83 = .ok (.isub, 1) := allD_get dtX8_thin 49 rfl
theorem dX8_thin_84 : decode cX8_thin 84 = .ok (.iaload, 1) := allD_get dtX8_thin 50 rfl
theorem dX8_thin_85 : decode cX8_thin 85 = .ok (.isub, 1) := allD_get dtX8_thin 51 rfl
theorem dX8_thin_86 : decode cX8_thin 86 = .ok (.invokestatic 164, 3) := allD_get dtX8_thin 52 rfl
theorem dX8_thin_89 : decode cX8_thin 89 = .ok (.iload_n 2, 1) := allD_get dtX8_thin 53 rfl
theorem dX8_thin_90 : decode cX8_thin 90 = .ok (.iload_n 2, 1) := allD_get dtX8_thin 54 rfl
theorem dX8_thin_91 : decode cX8_thin 91 = .ok (.imul, 1) := allD_get dtX8_thin 55 rfl
theorem dX8_thin_92 : decode cX8_thin 92 = .ok (.if_icmp .ge 7, 3) := allD_get dtX8_thin 56 rfl
theorem dX8_thin_95 : decode cX8_thin 95 = .ok (.iconst 1, 1) := allD_get dtX8_thin 57 rfl
theorem dX8_thin_96 : decode cX8_thin 96 = .ok (.goto 4, 3) := allD_get dtX8_thin 58 rfl
theorem dX8_thin_99 : decode cX8_thin 99 = .ok (.iconst 0, 1) := allD_get dtX8_thin 59 rfl
theorem dX8_thin_100 : decode cX8_thin 100 = .ok (.istore 5, 2) := allD_get dtX8_thin 60 rfl
theorem dX8_thin_102 : decode cX8_thin 102 = .ok (.iload 5, 2) := allD_get dtX8_thin 61 rfl
theorem dX8_thin_104 : decode cX8_thin 104 = .ok (.ifCond .ne 32, 3) := allD_get dtX8_thin 62 rfl
theorem dX8_thin_107 : decode cX8_thin 107 = .ok (.aload_n 0, 1) := allD_get dtX8_thin 63 rfl
theorem dX8_thin_108 : decode cX8_thin 108 = .ok (.getfield 42, 3) := allD_get dtX8_thin 64 rfl
theorem dX8_thin_111 : decode cX8_thin 111 = .ok (.iload_n 3, 1) := allD_get dtX8_thin 65 rfl
theorem dX8_thin_112 : decode cX8_thin 112 = .ok (.aload_n 0, 1) := allD_get dtX8_thin 66 rfl
theorem dX8_thin_113 : decode cX8_thin 113 = .ok (.getfield 42, 3) := allD_get dtX8_thin 67 rfl
theorem dX8_thin_116 : decode cX8_thin 116 = .ok (.iload 4, 2) := allD_get dtX8_thin 68 rfl
theorem dX8_thin_118 : decode cX8_thin 118 = .ok (.iaload, 1) := allD_get dtX8_thin 69 rfl
theorem dX8_thin_119 : decode cX8_thin 119 = .ok (.iastore, 1) := allD_get dtX8_thin 70 rfl
theorem dX8_thin_120 : decode cX8_thin 120 = .ok (.aload_n 0, 1) := allD_get dtX8_thin 71 rfl
theorem dX8_thin_121 : decode cX8_thin 121 = .ok (.getfield 45, 3) := allD_get dtX8_thin 72 rfl
theorem dX8_thin_124 : decode cX8_thin 124 = .ok (.iload_n 3, 1) := allD_get dtX8_thin 73 rfl
theorem dX8_thin_125 : decode cX8_thin 125 = .ok (.aload_n 0, 1) := allD_get dtX8_thin 74 rfl
theorem dX8_thin_126 : decode cX8_thin 126 = .ok (.getfield 45, 3) := allD_get dtX8_thin 75 rfl
theorem dX8_thin_129 : decode cX8_thin 129 = .ok (.iload 4, 2) := allD_get dtX8_thin 76 rfl
theorem dX8_thin_131 : decode cX8_thin 131 = .ok (.iaload, 1) := allD_get dtX8_thin 77 rfl
theorem dX8_thin_132 : decode cX8_thin 132 = .ok (.iastore, 1) := allD_get dtX8_thin 78 rfl
theorem dX8_thin_133 : decode cX8_thin 133 = .ok (.iinc 3 1, 3) := allD_get dtX8_thin 79 rfl
theorem dX8_thin_136 : decode cX8_thin 136 = .ok (.iinc 4 1, 3) := allD_get dtX8_thin 80 rfl
theorem dX8_thin_139 : decode cX8_thin 139 = .ok (.goto (-105), 3) := allD_get dtX8_thin 81 rfl
theorem dX8_thin_142 : decode cX8_thin 142 = .ok (.aload_n 0, 1) := allD_get dtX8_thin 82 rfl
theorem dX8_thin_143 : decode cX8_thin 143 = .ok (.iload_n 3, 1) := allD_get dtX8_thin 83 rfl
theorem dX8_thin_144 : decode cX8_thin 144 = .ok (.putfield 167, 3) := allD_get dtX8_thin 84 rfl
theorem dX8_thin_147 : decode cX8_thin 147 = .ok (.aload_n 0, 1) := allD_get dtX8_thin 85 rfl
theorem dX8_thin_148 : decode cX8_thin 148 = .ok (.invokevirtual 179, 3) := allD_get dtX8_thin 86 rfl
theorem dX8_thin_151 : decode cX8_thin 151 = .ok (.aload_n 0, 1) := allD_get dtX8_thin 87 rfl
theorem dX8_thin_152 : decode cX8_thin 152 = .ok (.iload_n 1, 1) := allD_get dtX8_thin 88 rfl
theorem dX8_thin_153 : decode cX8_thin 153 = .ok (.invokevirtual 182, 3) := allD_get dtX8_thin 89 rfl
theorem dX8_thin_156 : decode cX8_thin 156 = .ok (.ireturn, 1) := allD_get dtX8_thin 90 rfl
def tbX8_join : List (Nat × Instr × Nat) := [(0, .aload_n 0, 1), (1, .iload_n 1, 1), (2, .invokevirtual 170, 3), (5, .ifCond .ne 11, 3), (8, .aload_n 0, 1), (9, .iload_n 2, 1), (10, .invokevirtual 170, 3), (13, .ifCond .eq 5, 3), (16, .iconst (-1), 1), (17, .ireturn, 1), (18, .iload_n 1, 1), (19, .iload_n 2, 1), (20, .if_icmp .ne 6, 3), (23, .bipush (-2), 2), (25, .ireturn, 1), (26, .aload_n 0, 1), (27, .iload_n 1, 1), (28, .invokevirtual 135, 3), (31, .iconst 1, 1), (32, .isub, 1), (33, .istore_n 3, 1), (34, .aload_n 0, 1), (35, .iload_n 1, 1), (36, .iload_n 3, 1), (37, .invokevirtual 139, 3), (40, .aload_n 0, 1), (41, .iload_n 2, 1), (42, .iconst 0, 1), (43, .invokevirtual 139, 3), (46, .if_icmp .ne 22, 3), (49, .aload_n 0, 1), (50, .iload_n 1, 1), (51, .iload_n 3, 1), (52, .invokevirtual 143, 3), (55, .aload_n 0, 1), (56, .iload_n 2, 1), (57, .iconst 0, 1), (58, .invokevirtual 143, 3), (61, .if_icmp .ne 7, 3), (64, .iconst 1, 1), (65, .goto 4, 3), (68, .iconst 0, 1), (69, .istore 4, 2), (71, .aload_n 0, 1), (72, .iload_n 1, 1), (73, .invokevirtual 135, 3), (76, .aload_n 0, 1), (77, .iload_n 2, 1), (78, .invokevirtual 135, 3), (81, .iadd, 1), (82, .iload 4, 2), (84, .isub, 1), (85, .bipush 24, 2), (87, .if_icmp .le 6, 3), (90, .bipush (-3), 2), (92, .ireturn, 1), (93, .aload_n 0, 1), (94, .invokevirtual 155, 3), (97, .iconst 0, 1), (98, .istore 5, 2), (100, .iload 5, 2), (102, .aload_n 0, 1), (103, .invokevirtual 152, 3), (106, .if_icmp .ge 65, 3), (109, .iload 5, 2), (111, .iload_n 2, 1), (112, .if_icmp .eq 9, 3), (115, .aload_n 0, 1), (116, .iload 5, 2), (118, .invokevirtual 158, 3), (121, .iload 4, 2), (123, .istore 6, 2), (125, .iload 5, 2), (127, .iload_n 1, 1), (128, .if_icmp .ne 37, 3), (131, .iload 6, 2), (133, .aload_n 0, 1), (134, .iload_n 2, 1), (135, .invokevirtual 135, 3), (138, .if_icmp .ge 27, 3), (141, .aload_n 0, 1), (142, .aload_n 0, 1), (143, .iload_n 2, 1), (144, .iload 6, 2), (146, .invokevirtual 139, 3), (149, .aload_n 0, 1), (150, .iload_n 2, 1), (151, .iload 6, 2), (153, .invokevirtual 143, 3), (156, .invokevirtual 146, 3), (159, .iinc 6 1, 3), (162, .goto (-37), 3), (165, .iinc 5 1, 3), (168, .goto (-68), 3), (171, .aload_n 0, 1), (172, .invokevirtual 161, 3), (175, .iload_n 2, 1), (176, .iload_n 1, 1), (177, .if_icmp .ge 9, 3), (180, .iload_n 1, 1), (181, .iconst 1, 1), (182, .isub, 1), (183, .goto 4, 3), (186, .iload_n 1, 1), (187, .ireturn, 1)]
set_option maxRecDepth 100000 in
theorem dtX8_join : allD cX8_join tbX8_join = true := by decide +kernel
theorem dX8_join_0 : decode cX8_join 0 = .ok (.aload_n 0, 1) := allD_get dtX8_join 0 rfl
theorem dX8_join_1 : decode cX8_join 1 = .ok (.iload_n 1, 1) := allD_get dtX8_join 1 rfl
theorem dX8_join_2 : decode cX8_join 2 = .ok (.invokevirtual 170, 3) := allD_get dtX8_join 2 rfl
theorem dX8_join_5 : decode cX8_join 5 = .ok (.ifCond .ne 11, 3) := allD_get dtX8_join 3 rfl
theorem dX8_join_8 : decode cX8_join 8 = .ok (.aload_n 0, 1) := allD_get dtX8_join 4 rfl
theorem dX8_join_9 : decode cX8_join 9 = .ok (.iload_n 2, 1) := allD_get dtX8_join 5 rfl
theorem dX8_join_10 : decode cX8_join 10 = .ok (.invokevirtual 170, 3) := allD_get dtX8_join 6 rfl
theorem dX8_join_13 : decode cX8_join 13 = .ok (.ifCond .eq 5, 3) := allD_get dtX8_join 7 rfl
theorem dX8_join_16 : decode cX8_join 16 = .ok (.iconst (-1), 1) := allD_get dtX8_join 8 rfl
theorem dX8_join_17 : decode cX8_join 17 = .ok (.ireturn, 1) := allD_get dtX8_join 9 rfl
theorem dX8_join_18 : decode cX8_join 18 = .ok (.iload_n 1, 1) := allD_get dtX8_join 10 rfl
theorem dX8_join_19 : decode cX8_join 19 = .ok (.iload_n 2, 1) := allD_get dtX8_join 11 rfl
theorem dX8_join_20 : decode cX8_join 20 = .ok (.if_icmp .ne 6, 3) := allD_get dtX8_join 12 rfl
theorem dX8_join_23 : decode cX8_join 23 = .ok (.bipush (-2), 2) := allD_get dtX8_join 13 rfl
theorem dX8_join_25 : decode cX8_join 25 = .ok (.ireturn, 1) := allD_get dtX8_join 14 rfl
theorem dX8_join_26 : decode cX8_join 26 = .ok (.aload_n 0, 1) := allD_get dtX8_join 15 rfl
theorem dX8_join_27 : decode cX8_join 27 = .ok (.iload_n 1, 1) := allD_get dtX8_join 16 rfl
theorem dX8_join_28 : decode cX8_join 28 = .ok (.invokevirtual 135, 3) := allD_get dtX8_join 17 rfl
theorem dX8_join_31 : decode cX8_join 31 = .ok (.iconst 1, 1) := allD_get dtX8_join 18 rfl
theorem dX8_join_32 : decode cX8_join 32 = .ok (.isub, 1) := allD_get dtX8_join 19 rfl
theorem dX8_join_33 : decode cX8_join 33 = .ok (.istore_n 3, 1) := allD_get dtX8_join 20 rfl
theorem dX8_join_34 : decode cX8_join 34 = .ok (.aload_n 0, 1) := allD_get dtX8_join 21 rfl
theorem dX8_join_35 : decode cX8_join 35 = .ok (.iload_n 1, 1) := allD_get dtX8_join 22 rfl
theorem dX8_join_36 : decode cX8_join 36 = .ok (.iload_n 3, 1) := allD_get dtX8_join 23 rfl
theorem dX8_join_37 : decode cX8_join 37 = .ok (.invokevirtual 139, 3) := allD_get dtX8_join 24 rfl
theorem dX8_join_40 : decode cX8_join 40 = .ok (.aload_n 0, 1) := allD_get dtX8_join 25 rfl
theorem dX8_join_41 : decode cX8_join 41 = .ok (.iload_n 2, 1) := allD_get dtX8_join 26 rfl
theorem dX8_join_42 : decode cX8_join 42 = .ok (.iconst 0, 1) := allD_get dtX8_join 27 rfl
theorem dX8_join_43 : decode cX8_join 43 = .ok (.invokevirtual 139, 3) := allD_get dtX8_join 28 rfl
theorem dX8_join_46 : decode cX8_join 46 = .ok (.if_icmp .ne 22, 3) := allD_get dtX8_join 29 rfl
theorem dX8_join_49 : decode cX8_join 49 = .ok (.aload_n 0, 1) := allD_get dtX8_join 30 rfl
theorem dX8_join_50 : decode cX8_join 50 = .ok (.iload_n 1, 1) := allD_get dtX8_join 31 rfl
theorem dX8_join_51 : decode cX8_join 51 = .ok (.iload_n 3, 1) := allD_get dtX8_join 32 rfl
theorem dX8_join_52 : decode cX8_join 52 = .ok (.invokevirtual 143, 3) := allD_get dtX8_join 33 rfl
theorem dX8_join_55 : decode cX8_join 55 = .ok (.aload_n 0, 1) := allD_get dtX8_join 34 rfl
theorem dX8_join_56 : decode cX8_join 56 = .ok (.iload_n 2, 1) := allD_get dtX8_join 35 rfl
theorem dX8_join_57 : decode cX8_join 57 = .ok (.iconst 0, 1) := allD_get dtX8_join 36 rfl
theorem dX8_join_58 : decode cX8_join 58 = .ok (.invokevirtual 143, 3) := allD_get dtX8_join 37 rfl
theorem dX8_join_61 : decode cX8_join 61 = .ok (.if_icmp .ne 7, 3) := allD_get dtX8_join 38 rfl
theorem dX8_join_64 : decode cX8_join 64 = .ok (.iconst 1, 1) := allD_get dtX8_join 39 rfl
theorem dX8_join_65 : decode cX8_join 65 = .ok (.goto 4, 3) := allD_get dtX8_join 40 rfl
theorem dX8_join_68 : decode cX8_join 68 = .ok (.iconst 0, 1) := allD_get dtX8_join 41 rfl
theorem dX8_join_69 : decode cX8_join 69 = .ok (.istore 4, 2) := allD_get dtX8_join 42 rfl
theorem dX8_join_71 : decode cX8_join 71 = .ok (.aload_n 0, 1) := allD_get dtX8_join 43 rfl
theorem dX8_join_72 : decode cX8_join 72 = .ok (.iload_n 1, 1) := allD_get dtX8_join 44 rfl
theorem dX8_join_73 : decode cX8_join 73 = .ok (.invokevirtual 135, 3) := allD_get dtX8_join 45 rfl
theorem dX8_join_76 : decode cX8_join 76 = .ok (.aload_n 0, 1) := allD_get dtX8_join 46 rfl
theorem dX8_join_77 : decode cX8_join 77 = .ok (.iload_n 2, 1) := allD_get dtX8_join 47 rfl
theorem dX8_join_78 : decode cX8_join 78 = .ok (.invokevirtual 135, 3) := allD_get dtX8_join 48 rfl
theorem dX8_join_81 : decode cX8_join 81 = .ok (.iadd, 1) := allD_get dtX8_join 49 rfl
theorem dX8_join_82 : decode cX8_join 82 = .ok (.iload 4, 2) := allD_get dtX8_join 50 rfl
theorem dX8_join_84 : decode cX8_join 84 = .ok (.isub, 1) := allD_get dtX8_join 51 rfl
theorem dX8_join_85 : decode cX8_join 85 = .ok (.bipush 24, 2) := allD_get dtX8_join 52 rfl
theorem dX8_join_87 : decode cX8_join 87 = .ok (.if_icmp .le 6, 3) := allD_get dtX8_join 53 rfl
theorem dX8_join_90 : decode cX8_join 90 = .ok (.bipush (-3), 2) := allD_get dtX8_join 54 rfl
theorem dX8_join_92 : decode cX8_join 92 = .ok (.ireturn, 1) := allD_get dtX8_join 55 rfl
theorem dX8_join_93 : decode cX8_join 93 = .ok (.aload_n 0, 1) := allD_get dtX8_join 56 rfl
theorem dX8_join_94 : decode cX8_join 94 = .ok (.invokevirtual 155, 3) := allD_get dtX8_join 57 rfl
theorem dX8_join_97 : decode cX8_join 97 = .ok (.iconst 0, 1) := allD_get dtX8_join 58 rfl
theorem dX8_join_98 : decode cX8_join 98 = .ok (.istore 5, 2) := allD_get dtX8_join 59 rfl
theorem dX8_join_100 : decode cX8_join 100 = .ok (.iload 5, 2) := allD_get dtX8_join 60 rfl
theorem dX8_join_102 : decode cX8_join 102 = .ok (.aload_n 0, 1) := allD_get dtX8_join 61 rfl
theorem dX8_join_103 : decode cX8_join 103 = .ok (.invokevirtual 152, 3) := allD_get dtX8_join 62 rfl
theorem dX8_join_106 : decode cX8_join 106 = .ok (.if_icmp .ge 65, 3) := allD_get dtX8_join 63 rfl
theorem dX8_join_109 : decode cX8_join 109 = .ok (.iload 5, 2) := allD_get dtX8_join 64 rfl
theorem dX8_join_111 : decode cX8_join 111 = .ok (.iload_n 2, 1) := allD_get dtX8_join 65 rfl
theorem dX8_join_112 : decode cX8_join 112 = .ok (.if_icmp .eq 9, 3) := allD_get dtX8_join 66 rfl
theorem dX8_join_115 : decode cX8_join 115 = .ok (.aload_n 0, 1) := allD_get dtX8_join 67 rfl
theorem dX8_join_116 : decode cX8_join 116 = .ok (.iload 5, 2) := allD_get dtX8_join 68 rfl
theorem dX8_join_118 : decode cX8_join 118 = .ok (.invokevirtual 158, 3) := allD_get dtX8_join 69 rfl
theorem dX8_join_121 : decode cX8_join 121 = .ok (.iload 4, 2) := allD_get dtX8_join 70 rfl
theorem dX8_join_123 : decode cX8_join 123 = .ok (.istore 6, 2) := allD_get dtX8_join 71 rfl
theorem dX8_join_125 : decode cX8_join 125 = .ok (.iload 5, 2) := allD_get dtX8_join 72 rfl
theorem dX8_join_127 : decode cX8_join 127 = .ok (.iload_n 1, 1) := allD_get dtX8_join 73 rfl
theorem dX8_join_128 : decode cX8_join 128 = .ok (.if_icmp .ne 37, 3) := allD_get dtX8_join 74 rfl
theorem dX8_join_131 : decode cX8_join 131 = .ok (.iload 6, 2) := allD_get dtX8_join 75 rfl
theorem dX8_join_133 : decode cX8_join 133 = .ok (.aload_n 0, 1) := allD_get dtX8_join 76 rfl
theorem dX8_join_134 : decode cX8_join 134 = .ok (.iload_n 2, 1) := allD_get dtX8_join 77 rfl
theorem dX8_join_135 : decode cX8_join 135 = .ok (.invokevirtual 135, 3) := allD_get dtX8_join 78 rfl
theorem dX8_join_138 : decode cX8_join 138 = .ok (.if_icmp .ge 27, 3) := allD_get dtX8_join 79 rfl
theorem dX8_join_141 : decode cX8_join 141 = .ok (.aload_n 0, 1) := allD_get dtX8_join 80 rfl
theorem dX8_join_142 : decode cX8_join 142 = .ok (.aload_n 0, 1) := allD_get dtX8_join 81 rfl
theorem dX8_join_143 : decode cX8_join 143 = .ok (.iload_n 2, 1) := allD_get dtX8_join 82 rfl
theorem dX8_join_144 : decode cX8_join 144 = .ok (.iload 6, 2) := allD_get dtX8_join 83 rfl
theorem dX8_join_146 : decode cX8_join 146 = .ok (.invokevirtual 139, 3) := allD_get dtX8_join 84 rfl
theorem dX8_join_149 : decode cX8_join 149 = .ok (.aload_n 0, 1) := allD_get dtX8_join 85 rfl
theorem dX8_join_150 : decode cX8_join 150 = .ok (.iload_n 2, 1) := allD_get dtX8_join 86 rfl
theorem dX8_join_151 : decode cX8_join 151 = .ok (.iload 6, 2) := allD_get dtX8_join 87 rfl
theorem dX8_join_153 : decode cX8_join 153 = .ok (.invokevirtual 143, 3) := allD_get dtX8_join 88 rfl
theorem dX8_join_156 : decode cX8_join 156 = .ok (.invokevirtual 146, 3) := allD_get dtX8_join 89 rfl
theorem dX8_join_159 : decode cX8_join 159 = .ok (.iinc 6 1, 3) := allD_get dtX8_join 90 rfl
theorem dX8_join_162 : decode cX8_join 162 = .ok (.goto (-37), 3) := allD_get dtX8_join 91 rfl
theorem dX8_join_165 : decode cX8_join 165 = .ok (.iinc 5 1, 3) := allD_get dtX8_join 92 rfl
theorem dX8_join_168 : decode cX8_join 168 = .ok (.goto (-68), 3) := allD_get dtX8_join 93 rfl
theorem dX8_join_171 : decode cX8_join 171 = .ok (.aload_n 0, 1) := allD_get dtX8_join 94 rfl
theorem dX8_join_172 : decode cX8_join 172 = .ok (.invokevirtual 161, 3) := allD_get dtX8_join 95 rfl
theorem dX8_join_175 : decode cX8_join 175 = .ok (.iload_n 2, 1) := allD_get dtX8_join 96 rfl
theorem dX8_join_176 : decode cX8_join 176 = .ok (.iload_n 1, 1) := allD_get dtX8_join 97 rfl
theorem dX8_join_177 : decode cX8_join 177 = .ok (.if_icmp .ge 9, 3) := allD_get dtX8_join 98 rfl
theorem dX8_join_180 : decode cX8_join 180 = .ok (.iload_n 1, 1) := allD_get dtX8_join 99 rfl
theorem dX8_join_181 : decode cX8_join 181 = .ok (.iconst 1, 1) := allD_get dtX8_join 100 rfl
theorem dX8_join_182 : decode cX8_join 182 = .ok (.isub, 1) := allD_get dtX8_join 101 rfl
theorem dX8_join_183 : decode cX8_join 183 = .ok (.goto 4, 3) := allD_get dtX8_join 102 rfl
theorem dX8_join_186 : decode cX8_join 186 = .ok (.iload_n 1, 1) := allD_get dtX8_join 103 rfl
theorem dX8_join_187 : decode cX8_join 187 = .ok (.ireturn, 1) := allD_get dtX8_join 104 rfl
def tbX8_shift : List (Nat × Instr × Nat) := [(0, .aload_n 0, 1), (1, .iload_n 1, 1), (2, .invokevirtual 170, 3), (5, .ifCond .eq 5, 3), (8, .iconst (-1), 1), (9, .ireturn, 1), (10, .iload_n 2, 1), (11, .sipush (-1000), 3), (14, .sipush 1000, 3), (17, .invokestatic 75, 3), (20, .ifCond .eq 16, 3), (23, .iload_n 3, 1), (24, .sipush (-1000), 3), (27, .sipush 1000, 3), (30, .invokestatic 75, 3), (33, .ifCond .ne 6, 3), (36, .bipush (-2), 2), (38, .ireturn, 1), (39, .aload_n 0, 1), (40, .iload_n 1, 1), (41, .invokevirtual 173, 3), (44, .iconst 0, 1), (45, .istore 4, 2), (47, .iload 4, 2), (49, .aload_n 0, 1), (50, .getfield 167, 3), (53, .if_icmp .ge 60, 3), (56, .aload_n 0, 1), (57, .getfield 42, 3), (60, .iload 4, 2), (62, .dup2, 1), (63, .iaload, 1), (64, .iload_n 2, 1), (65, .iadd, 1), (66, .iastore, 1), (67, .aload_n 0, 1), (68, .getfield 45, 3), (71, .iload 4, 2), (73, .dup2, 1), (74, .iaload, 1), (75, .iload_n 3, 1), (76, .iadd, 1), (77, .iastore, 1), (78, .aload_n 0, 1), (79, .getfield 42, 3), (82, .iload 4, 2), (84, .iaload, 1), (85, .invokestatic 99, 3), (88, .ifCond .eq 16, 3), (91, .aload_n 0, 1), (92, .getfield 45, 3), (95, .iload 4, 2), (97, .iaload, 1), (98, .invokestatic 99, 3), (101, .ifCond .ne 6, 3), (104, .bipush (-4), 2), (106, .ireturn, 1), (107, .iinc 4 1, 3), (110, .goto (-63), 3), (113, .aload_n 0, 1), (114, .iload_n 1, 1), (115, .invokevirtual 182, 3), (118, .ireturn, 1)]
set_option maxRecDepth 100000 in
theorem dtX8_shift : allD cX8_shift tbX8_shift = true := by decide +kernel
theorem dX8_shift_0 : decode cX8_shift 0 = .ok (.aload_n 0, 1) := allD_get dtX8_shift 0 rfl
theorem dX8_shift_1 : decode cX8_shift 1 = .ok (.iload_n 1, 1) := allD_get dtX8_shift 1 rfl
theorem dX8_shift_2 : decode cX8_shift 2 = .ok (.invokevirtual 170, 3) := allD_get dtX8_shift 2 rfl
theorem dX8_shift_5 : decode cX8_shift 5 = .ok (.ifCond .eq 5, 3) := allD_get dtX8_shift 3 rfl
theorem dX8_shift_8 : decode cX8_shift 8 = .ok (.iconst (-1), 1) := allD_get dtX8_shift 4 rfl
theorem dX8_shift_9 : decode cX8_shift 9 = .ok (.ireturn, 1) := allD_get dtX8_shift 5 rfl
theorem dX8_shift_10 : decode cX8_shift 10 = .ok (.iload_n 2, 1) := allD_get dtX8_shift 6 rfl
theorem dX8_shift_11 : decode cX8_shift 11 = .ok (.sipush (-1000), 3) := allD_get dtX8_shift 7 rfl
theorem dX8_shift_14 : decode cX8_shift 14 = .ok (.sipush 1000, 3) := allD_get dtX8_shift 8 rfl
theorem dX8_shift_17 : decode cX8_shift 17 = .ok (.invokestatic 75, 3) := allD_get dtX8_shift 9 rfl
theorem dX8_shift_20 : decode cX8_shift 20 = .ok (.ifCond .eq 16, 3) := allD_get dtX8_shift 10 rfl
theorem dX8_shift_23 : decode cX8_shift 23 = .ok (.iload_n 3, 1) := allD_get dtX8_shift 11 rfl
theorem dX8_shift_24 : decode cX8_shift 24 = .ok (.sipush (-1000), 3) := allD_get dtX8_shift 12 rfl
theorem dX8_shift_27 : decode cX8_shift 27 = .ok (.sipush 1000, 3) := allD_get dtX8_shift 13 rfl
theorem dX8_shift_30 : decode cX8_shift 30 = .ok (.invokestatic 75, 3) := allD_get dtX8_shift 14 rfl
theorem dX8_shift_33 : decode cX8_shift 33 = .ok (.ifCond .ne 6, 3) := allD_get dtX8_shift 15 rfl
theorem dX8_shift_36 : decode cX8_shift 36 = .ok (.bipush (-2), 2) := allD_get dtX8_shift 16 rfl
theorem dX8_shift_38 : decode cX8_shift 38 = .ok (.ireturn, 1) := allD_get dtX8_shift 17 rfl
theorem dX8_shift_39 : decode cX8_shift 39 = .ok (.aload_n 0, 1) := allD_get dtX8_shift 18 rfl
theorem dX8_shift_40 : decode cX8_shift 40 = .ok (.iload_n 1, 1) := allD_get dtX8_shift 19 rfl
theorem dX8_shift_41 : decode cX8_shift 41 = .ok (.invokevirtual 173, 3) := allD_get dtX8_shift 20 rfl
theorem dX8_shift_44 : decode cX8_shift 44 = .ok (.iconst 0, 1) := allD_get dtX8_shift 21 rfl
theorem dX8_shift_45 : decode cX8_shift 45 = .ok (.istore 4, 2) := allD_get dtX8_shift 22 rfl
theorem dX8_shift_47 : decode cX8_shift 47 = .ok (.iload 4, 2) := allD_get dtX8_shift 23 rfl
theorem dX8_shift_49 : decode cX8_shift 49 = .ok (.aload_n 0, 1) := allD_get dtX8_shift 24 rfl
theorem dX8_shift_50 : decode cX8_shift 50 = .ok (.getfield 167, 3) := allD_get dtX8_shift 25 rfl
theorem dX8_shift_53 : decode cX8_shift 53 = .ok (.if_icmp .ge 60, 3) := allD_get dtX8_shift 26 rfl
theorem dX8_shift_56 : decode cX8_shift 56 = .ok (.aload_n 0, 1) := allD_get dtX8_shift 27 rfl
theorem dX8_shift_57 : decode cX8_shift 57 = .ok (.getfield 42, 3) := allD_get dtX8_shift 28 rfl
theorem dX8_shift_60 : decode cX8_shift 60 = .ok (.iload 4, 2) := allD_get dtX8_shift 29 rfl
theorem dX8_shift_62 : decode cX8_shift 62 = .ok (.dup2, 1) := allD_get dtX8_shift 30 rfl
theorem dX8_shift_63 : decode cX8_shift 63 = .ok (.iaload, 1) := allD_get dtX8_shift 31 rfl
theorem dX8_shift_64 : decode cX8_shift 64 = .ok (.iload_n 2, 1) := allD_get dtX8_shift 32 rfl
theorem dX8_shift_65 : decode cX8_shift 65 = .ok (.iadd, 1) := allD_get dtX8_shift 33 rfl
theorem dX8_shift_66 : decode cX8_shift 66 = .ok (.iastore, 1) := allD_get dtX8_shift 34 rfl
theorem dX8_shift_67 : decode cX8_shift 67 = .ok (.aload_n 0, 1) := allD_get dtX8_shift 35 rfl
theorem dX8_shift_68 : decode cX8_shift 68 = .ok (.getfield 45, 3) := allD_get dtX8_shift 36 rfl
theorem dX8_shift_71 : decode cX8_shift 71 = .ok (.iload 4, 2) := allD_get dtX8_shift 37 rfl
theorem dX8_shift_73 : decode cX8_shift 73 = .ok (.dup2, 1) := allD_get dtX8_shift 38 rfl
theorem dX8_shift_74 : decode cX8_shift 74 = .ok (.iaload, 1) := allD_get dtX8_shift 39 rfl
theorem dX8_shift_75 : decode cX8_shift 75 = .ok (.iload_n 3, 1) := allD_get dtX8_shift 40 rfl
theorem dX8_shift_76 : decode cX8_shift 76 = .ok (.iadd, 1) := allD_get dtX8_shift 41 rfl
theorem dX8_shift_77 : decode cX8_shift 77 = .ok (.iastore, 1) := allD_get dtX8_shift 42 rfl
theorem dX8_shift_78 : decode cX8_shift 78 = .ok (.aload_n 0, 1) := allD_get dtX8_shift 43 rfl
theorem dX8_shift_79 : decode cX8_shift 79 = .ok (.getfield 42, 3) := allD_get dtX8_shift 44 rfl
theorem dX8_shift_82 : decode cX8_shift 82 = .ok (.iload 4, 2) := allD_get dtX8_shift 45 rfl
theorem dX8_shift_84 : decode cX8_shift 84 = .ok (.iaload, 1) := allD_get dtX8_shift 46 rfl
theorem dX8_shift_85 : decode cX8_shift 85 = .ok (.invokestatic 99, 3) := allD_get dtX8_shift 47 rfl
theorem dX8_shift_88 : decode cX8_shift 88 = .ok (.ifCond .eq 16, 3) := allD_get dtX8_shift 48 rfl
theorem dX8_shift_91 : decode cX8_shift 91 = .ok (.aload_n 0, 1) := allD_get dtX8_shift 49 rfl
theorem dX8_shift_92 : decode cX8_shift 92 = .ok (.getfield 45, 3) := allD_get dtX8_shift 50 rfl
theorem dX8_shift_95 : decode cX8_shift 95 = .ok (.iload 4, 2) := allD_get dtX8_shift 51 rfl
theorem dX8_shift_97 : decode cX8_shift 97 = .ok (.iaload, 1) := allD_get dtX8_shift 52 rfl
theorem dX8_shift_98 : decode cX8_shift 98 = .ok (.invokestatic 99, 3) := allD_get dtX8_shift 53 rfl
theorem dX8_shift_101 : decode cX8_shift 101 = .ok (.ifCond .ne 6, 3) := allD_get dtX8_shift 54 rfl
theorem dX8_shift_104 : decode cX8_shift 104 = .ok (.bipush (-4), 2) := allD_get dtX8_shift 55 rfl
theorem dX8_shift_106 : decode cX8_shift 106 = .ok (.ireturn, 1) := allD_get dtX8_shift 56 rfl
theorem dX8_shift_107 : decode cX8_shift 107 = .ok (.iinc 4 1, 3) := allD_get dtX8_shift 57 rfl
theorem dX8_shift_110 : decode cX8_shift 110 = .ok (.goto (-63), 3) := allD_get dtX8_shift 58 rfl
theorem dX8_shift_113 : decode cX8_shift 113 = .ok (.aload_n 0, 1) := allD_get dtX8_shift 59 rfl
theorem dX8_shift_114 : decode cX8_shift 114 = .ok (.iload_n 1, 1) := allD_get dtX8_shift 60 rfl
theorem dX8_shift_115 : decode cX8_shift 115 = .ok (.invokevirtual 182, 3) := allD_get dtX8_shift 61 rfl
theorem dX8_shift_118 : decode cX8_shift 118 = .ok (.ireturn, 1) := allD_get dtX8_shift 62 rfl
def tbX8_paint : List (Nat × Instr × Nat) := [(0, .aload_n 0, 1), (1, .iload_n 1, 1), (2, .invokevirtual 170, 3), (5, .ifCond .eq 5, 3), (8, .iconst (-1), 1), (9, .ireturn, 1), (10, .iload_n 2, 1), (11, .iconst 0, 1), (12, .iconst 3, 1), (13, .invokestatic 75, 3), (16, .ifCond .ne 6, 3), (19, .bipush (-2), 2), (21, .ireturn, 1), (22, .aload_n 0, 1), (23, .getfield 7, 3), (26, .bipush 17, 2), (28, .iload_n 1, 1), (29, .iadd, 1), (30, .iaload, 1), (31, .istore_n 3, 1), (32, .iload_n 3, 1), (33, .iload_n 2, 1), (34, .if_icmp .ne 6, 3), (37, .bipush (-5), 2), (39, .ireturn, 1), (40, .aload_n 0, 1), (41, .invokevirtual 149, 3), (44, .aload_n 0, 1), (45, .getfield 7, 3), (48, .bipush 17, 2), (50, .iload_n 1, 1), (51, .iadd, 1), (52, .iload_n 2, 1), (53, .iastore, 1), (54, .iload_n 3, 1), (55, .ireturn, 1)]
set_option maxRecDepth 100000 in
theorem dtX8_paint : allD cX8_paint tbX8_paint = true := by decide +kernel
theorem dX8_paint_0 : decode cX8_paint 0 = .ok (.aload_n 0, 1) := allD_get dtX8_paint 0 rfl
theorem dX8_paint_1 : decode cX8_paint 1 = .ok (.iload_n 1, 1) := allD_get dtX8_paint 1 rfl
theorem dX8_paint_2 : decode cX8_paint 2 = .ok (.invokevirtual 170, 3) := allD_get dtX8_paint 2 rfl
theorem dX8_paint_5 : decode cX8_paint 5 = .ok (.ifCond .eq 5, 3) := allD_get dtX8_paint 3 rfl
theorem dX8_paint_8 : decode cX8_paint 8 = .ok (.iconst (-1), 1) := allD_get dtX8_paint 4 rfl
theorem dX8_paint_9 : decode cX8_paint 9 = .ok (.ireturn, 1) := allD_get dtX8_paint 5 rfl
theorem dX8_paint_10 : decode cX8_paint 10 = .ok (.iload_n 2, 1) := allD_get dtX8_paint 6 rfl
theorem dX8_paint_11 : decode cX8_paint 11 = .ok (.iconst 0, 1) := allD_get dtX8_paint 7 rfl
theorem dX8_paint_12 : decode cX8_paint 12 = .ok (.iconst 3, 1) := allD_get dtX8_paint 8 rfl
theorem dX8_paint_13 : decode cX8_paint 13 = .ok (.invokestatic 75, 3) := allD_get dtX8_paint 9 rfl
theorem dX8_paint_16 : decode cX8_paint 16 = .ok (.ifCond .ne 6, 3) := allD_get dtX8_paint 10 rfl
theorem dX8_paint_19 : decode cX8_paint 19 = .ok (.bipush (-2), 2) := allD_get dtX8_paint 11 rfl
theorem dX8_paint_21 : decode cX8_paint 21 = .ok (.ireturn, 1) := allD_get dtX8_paint 12 rfl
theorem dX8_paint_22 : decode cX8_paint 22 = .ok (.aload_n 0, 1) := allD_get dtX8_paint 13 rfl
theorem dX8_paint_23 : decode cX8_paint 23 = .ok (.getfield 7, 3) := allD_get dtX8_paint 14 rfl
theorem dX8_paint_26 : decode cX8_paint 26 = .ok (.bipush 17, 2) := allD_get dtX8_paint 15 rfl
theorem dX8_paint_28 : decode cX8_paint 28 = .ok (.iload_n 1, 1) := allD_get dtX8_paint 16 rfl
theorem dX8_paint_29 : decode cX8_paint 29 = .ok (.iadd, 1) := allD_get dtX8_paint 17 rfl
theorem dX8_paint_30 : decode cX8_paint 30 = .ok (.iaload, 1) := allD_get dtX8_paint 18 rfl
theorem dX8_paint_31 : decode cX8_paint 31 = .ok (.istore_n 3, 1) := allD_get dtX8_paint 19 rfl
theorem dX8_paint_32 : decode cX8_paint 32 = .ok (.iload_n 3, 1) := allD_get dtX8_paint 20 rfl
theorem dX8_paint_33 : decode cX8_paint 33 = .ok (.iload_n 2, 1) := allD_get dtX8_paint 21 rfl
theorem dX8_paint_34 : decode cX8_paint 34 = .ok (.if_icmp .ne 6, 3) := allD_get dtX8_paint 22 rfl
theorem dX8_paint_37 : decode cX8_paint 37 = .ok (.bipush (-5), 2) := allD_get dtX8_paint 23 rfl
theorem dX8_paint_39 : decode cX8_paint 39 = .ok (.ireturn, 1) := allD_get dtX8_paint 24 rfl
theorem dX8_paint_40 : decode cX8_paint 40 = .ok (.aload_n 0, 1) := allD_get dtX8_paint 25 rfl
theorem dX8_paint_41 : decode cX8_paint 41 = .ok (.invokevirtual 149, 3) := allD_get dtX8_paint 26 rfl
theorem dX8_paint_44 : decode cX8_paint 44 = .ok (.aload_n 0, 1) := allD_get dtX8_paint 27 rfl
theorem dX8_paint_45 : decode cX8_paint 45 = .ok (.getfield 7, 3) := allD_get dtX8_paint 28 rfl
theorem dX8_paint_48 : decode cX8_paint 48 = .ok (.bipush 17, 2) := allD_get dtX8_paint 29 rfl
theorem dX8_paint_50 : decode cX8_paint 50 = .ok (.iload_n 1, 1) := allD_get dtX8_paint 30 rfl
theorem dX8_paint_51 : decode cX8_paint 51 = .ok (.iadd, 1) := allD_get dtX8_paint 31 rfl
theorem dX8_paint_52 : decode cX8_paint 52 = .ok (.iload_n 2, 1) := allD_get dtX8_paint 32 rfl
theorem dX8_paint_53 : decode cX8_paint 53 = .ok (.iastore, 1) := allD_get dtX8_paint 33 rfl
theorem dX8_paint_54 : decode cX8_paint 54 = .ok (.iload_n 3, 1) := allD_get dtX8_paint 34 rfl
theorem dX8_paint_55 : decode cX8_paint 55 = .ok (.ireturn, 1) := allD_get dtX8_paint 35 rfl
def tbX8_remove : List (Nat × Instr × Nat) := [(0, .aload_n 0, 1), (1, .iload_n 1, 1), (2, .invokevirtual 170, 3), (5, .ifCond .eq 5, 3), (8, .iconst (-1), 1), (9, .ireturn, 1), (10, .aload_n 0, 1), (11, .invokevirtual 155, 3), (14, .iconst 0, 1), (15, .istore_n 2, 1), (16, .iload_n 2, 1), (17, .aload_n 0, 1), (18, .invokevirtual 152, 3), (21, .if_icmp .ge 19, 3), (24, .iload_n 2, 1), (25, .iload_n 1, 1), (26, .if_icmp .eq 8, 3), (29, .aload_n 0, 1), (30, .iload_n 2, 1), (31, .invokevirtual 158, 3), (34, .iinc 2 1, 3), (37, .goto (-21), 3), (40, .aload_n 0, 1), (41, .invokevirtual 161, 3), (44, .aload_n 0, 1), (45, .invokevirtual 152, 3), (48, .ireturn, 1)]
set_option maxRecDepth 100000 in
theorem dtX8_remove : allD cX8_remove tbX8_remove = true := by decide +kernel
theorem dX8_remove_0 : decode cX8_remove 0 = .ok (.aload_n 0, 1) := allD_get dtX8_remove 0 rfl
theorem dX8_remove_1 : decode cX8_remove 1 = .ok (.iload_n 1, 1) := allD_get dtX8_remove 1 rfl
theorem dX8_remove_2 : decode cX8_remove 2 = .ok (.invokevirtual 170, 3) := allD_get dtX8_remove 2 rfl
theorem dX8_remove_5 : decode cX8_remove 5 = .ok (.ifCond .eq 5, 3) := allD_get dtX8_remove 3 rfl
theorem dX8_remove_8 : decode cX8_remove 8 = .ok (.iconst (-1), 1) := allD_get dtX8_remove 4 rfl
theorem dX8_remove_9 : decode cX8_remove 9 = .ok (.ireturn, 1) := allD_get dtX8_remove 5 rfl
theorem dX8_remove_10 : decode cX8_remove 10 = .ok (.aload_n 0, 1) := allD_get dtX8_remove 6 rfl
theorem dX8_remove_11 : decode cX8_remove 11 = .ok (.invokevirtual 155, 3) := allD_get dtX8_remove 7 rfl
theorem dX8_remove_14 : decode cX8_remove 14 = .ok (.iconst 0, 1) := allD_get dtX8_remove 8 rfl
theorem dX8_remove_15 : decode cX8_remove 15 = .ok (.istore_n 2, 1) := allD_get dtX8_remove 9 rfl
theorem dX8_remove_16 : decode cX8_remove 16 = .ok (.iload_n 2, 1) := allD_get dtX8_remove 10 rfl
theorem dX8_remove_17 : decode cX8_remove 17 = .ok (.aload_n 0, 1) := allD_get dtX8_remove 11 rfl
theorem dX8_remove_18 : decode cX8_remove 18 = .ok (.invokevirtual 152, 3) := allD_get dtX8_remove 12 rfl
theorem dX8_remove_21 : decode cX8_remove 21 = .ok (.if_icmp .ge 19, 3) := allD_get dtX8_remove 13 rfl
theorem dX8_remove_24 : decode cX8_remove 24 = .ok (.iload_n 2, 1) := allD_get dtX8_remove 14 rfl
theorem dX8_remove_25 : decode cX8_remove 25 = .ok (.iload_n 1, 1) := allD_get dtX8_remove 15 rfl
theorem dX8_remove_26 : decode cX8_remove 26 = .ok (.if_icmp .eq 8, 3) := allD_get dtX8_remove 16 rfl
theorem dX8_remove_29 : decode cX8_remove 29 = .ok (.aload_n 0, 1) := allD_get dtX8_remove 17 rfl
theorem dX8_remove_30 : decode cX8_remove 30 = .ok (.iload_n 2, 1) := allD_get dtX8_remove 18 rfl
theorem dX8_remove_31 : decode cX8_remove 31 = .ok (.invokevirtual 158, 3) := allD_get dtX8_remove 19 rfl
theorem dX8_remove_34 : decode cX8_remove 34 = .ok (.iinc 2 1, 3) := allD_get dtX8_remove 20 rfl
theorem dX8_remove_37 : decode cX8_remove 37 = .ok (.goto (-21), 3) := allD_get dtX8_remove 21 rfl
theorem dX8_remove_40 : decode cX8_remove 40 = .ok (.aload_n 0, 1) := allD_get dtX8_remove 22 rfl
theorem dX8_remove_41 : decode cX8_remove 41 = .ok (.invokevirtual 161, 3) := allD_get dtX8_remove 23 rfl
theorem dX8_remove_44 : decode cX8_remove 44 = .ok (.aload_n 0, 1) := allD_get dtX8_remove 24 rfl
theorem dX8_remove_45 : decode cX8_remove 45 = .ok (.invokevirtual 152, 3) := allD_get dtX8_remove 25 rfl
theorem dX8_remove_48 : decode cX8_remove 48 = .ok (.ireturn, 1) := allD_get dtX8_remove 26 rfl
def tbX8_bound : List (Nat × Instr × Nat) := [(0, .iload_n 2, 1), (1, .ifCond .eq 12, 3), (4, .aload_n 0, 1), (5, .iload_n 1, 1), (6, .iconst 0, 1), (7, .invokevirtual 143, 3), (10, .goto 9, 3), (13, .aload_n 0, 1), (14, .iload_n 1, 1), (15, .iconst 0, 1), (16, .invokevirtual 139, 3), (19, .istore 4, 2), (21, .iconst 1, 1), (22, .istore 5, 2), (24, .iload 5, 2), (26, .aload_n 0, 1), (27, .iload_n 1, 1), (28, .invokevirtual 135, 3), (31, .if_icmp .ge 69, 3), (34, .iload_n 2, 1), (35, .ifCond .eq 13, 3), (38, .aload_n 0, 1), (39, .iload_n 1, 1), (40, .iload 5, 2), (42, .invokevirtual 143, 3), (45, .goto 10, 3), (48, .aload_n 0, 1), (49, .iload_n 1, 1), (50, .iload 5, 2), (52, .invokevirtual 139, 3), (55, .istore 6, 2), (57, .iload_n 3, 1), (58, .ifCond .eq 20, 3), (61, .iload 6, 2), (63, .iload 4, 2), (65, .if_icmp .le 8, 3), (68, .iload 6, 2), (70, .goto 22, 3), (73, .iload 4, 2), (75, .goto 17, 3), (78, .iload 6, 2), (80, .iload 4, 2), (82, .if_icmp .ge 8, 3), (85, .iload 6, 2), (87, .goto 5, 3), (90, .iload 4, 2), (92, .istore 4, 2), (94, .iinc 5 1, 3), (97, .goto (-73), 3), (100, .iload 4, 2), (102, .ireturn, 1)]
set_option maxRecDepth 100000 in
theorem dtX8_bound : allD cX8_bound tbX8_bound = true := by decide +kernel
theorem dX8_bound_0 : decode cX8_bound 0 = .ok (.iload_n 2, 1) := allD_get dtX8_bound 0 rfl
theorem dX8_bound_1 : decode cX8_bound 1 = .ok (.ifCond .eq 12, 3) := allD_get dtX8_bound 1 rfl
theorem dX8_bound_4 : decode cX8_bound 4 = .ok (.aload_n 0, 1) := allD_get dtX8_bound 2 rfl
theorem dX8_bound_5 : decode cX8_bound 5 = .ok (.iload_n 1, 1) := allD_get dtX8_bound 3 rfl
theorem dX8_bound_6 : decode cX8_bound 6 = .ok (.iconst 0, 1) := allD_get dtX8_bound 4 rfl
theorem dX8_bound_7 : decode cX8_bound 7 = .ok (.invokevirtual 143, 3) := allD_get dtX8_bound 5 rfl
theorem dX8_bound_10 : decode cX8_bound 10 = .ok (.goto 9, 3) := allD_get dtX8_bound 6 rfl
theorem dX8_bound_13 : decode cX8_bound 13 = .ok (.aload_n 0, 1) := allD_get dtX8_bound 7 rfl
theorem dX8_bound_14 : decode cX8_bound 14 = .ok (.iload_n 1, 1) := allD_get dtX8_bound 8 rfl
theorem dX8_bound_15 : decode cX8_bound 15 = .ok (.iconst 0, 1) := allD_get dtX8_bound 9 rfl
theorem dX8_bound_16 : decode cX8_bound 16 = .ok (.invokevirtual 139, 3) := allD_get dtX8_bound 10 rfl
theorem dX8_bound_19 : decode cX8_bound 19 = .ok (.istore 4, 2) := allD_get dtX8_bound 11 rfl
theorem dX8_bound_21 : decode cX8_bound 21 = .ok (.iconst 1, 1) := allD_get dtX8_bound 12 rfl
theorem dX8_bound_22 : decode cX8_bound 22 = .ok (.istore 5, 2) := allD_get dtX8_bound 13 rfl
theorem dX8_bound_24 : decode cX8_bound 24 = .ok (.iload 5, 2) := allD_get dtX8_bound 14 rfl
theorem dX8_bound_26 : decode cX8_bound 26 = .ok (.aload_n 0, 1) := allD_get dtX8_bound 15 rfl
theorem dX8_bound_27 : decode cX8_bound 27 = .ok (.iload_n 1, 1) := allD_get dtX8_bound 16 rfl
theorem dX8_bound_28 : decode cX8_bound 28 = .ok (.invokevirtual 135, 3) := allD_get dtX8_bound 17 rfl
theorem dX8_bound_31 : decode cX8_bound 31 = .ok (.if_icmp .ge 69, 3) := allD_get dtX8_bound 18 rfl
theorem dX8_bound_34 : decode cX8_bound 34 = .ok (.iload_n 2, 1) := allD_get dtX8_bound 19 rfl
theorem dX8_bound_35 : decode cX8_bound 35 = .ok (.ifCond .eq 13, 3) := allD_get dtX8_bound 20 rfl
theorem dX8_bound_38 : decode cX8_bound 38 = .ok (.aload_n 0, 1) := allD_get dtX8_bound 21 rfl
theorem dX8_bound_39 : decode cX8_bound 39 = .ok (.iload_n 1, 1) := allD_get dtX8_bound 22 rfl
theorem dX8_bound_40 : decode cX8_bound 40 = .ok (.iload 5, 2) := allD_get dtX8_bound 23 rfl
theorem dX8_bound_42 : decode cX8_bound 42 = .ok (.invokevirtual 143, 3) := allD_get dtX8_bound 24 rfl
theorem dX8_bound_45 : decode cX8_bound 45 = .ok (.goto 10, 3) := allD_get dtX8_bound 25 rfl
theorem dX8_bound_48 : decode cX8_bound 48 = .ok (.aload_n 0, 1) := allD_get dtX8_bound 26 rfl
theorem dX8_bound_49 : decode cX8_bound 49 = .ok (.iload_n 1, 1) := allD_get dtX8_bound 27 rfl
theorem dX8_bound_50 : decode cX8_bound 50 = .ok (.iload 5, 2) := allD_get dtX8_bound 28 rfl
theorem dX8_bound_52 : decode cX8_bound 52 = .ok (.invokevirtual 139, 3) := allD_get dtX8_bound 29 rfl
theorem dX8_bound_55 : decode cX8_bound 55 = .ok (.istore 6, 2) := allD_get dtX8_bound 30 rfl
theorem dX8_bound_57 : decode cX8_bound 57 = .ok (.iload_n 3, 1) := allD_get dtX8_bound 31 rfl
theorem dX8_bound_58 : decode cX8_bound 58 = .ok (.ifCond .eq 20, 3) := allD_get dtX8_bound 32 rfl
theorem dX8_bound_61 : decode cX8_bound 61 = .ok (.iload 6, 2) := allD_get dtX8_bound 33 rfl
theorem dX8_bound_63 : decode cX8_bound 63 = .ok (.iload 4, 2) := allD_get dtX8_bound 34 rfl
theorem dX8_bound_65 : decode cX8_bound 65 = .ok (.if_icmp .le 8, 3) := allD_get dtX8_bound 35 rfl
theorem dX8_bound_68 : decode cX8_bound 68 = .ok (.iload 6, 2) := allD_get dtX8_bound 36 rfl
theorem dX8_bound_70 : decode cX8_bound 70 = .ok (.goto 22, 3) := allD_get dtX8_bound 37 rfl
theorem dX8_bound_73 : decode cX8_bound 73 = .ok (.iload 4, 2) := allD_get dtX8_bound 38 rfl
theorem dX8_bound_75 : decode cX8_bound 75 = .ok (.goto 17, 3) := allD_get dtX8_bound 39 rfl
theorem dX8_bound_78 : decode cX8_bound 78 = .ok (.iload 6, 2) := allD_get dtX8_bound 40 rfl
theorem dX8_bound_80 : decode cX8_bound 80 = .ok (.iload 4, 2) := allD_get dtX8_bound 41 rfl
theorem dX8_bound_82 : decode cX8_bound 82 = .ok (.if_icmp .ge 8, 3) := allD_get dtX8_bound 42 rfl
theorem dX8_bound_85 : decode cX8_bound 85 = .ok (.iload 6, 2) := allD_get dtX8_bound 43 rfl
theorem dX8_bound_87 : decode cX8_bound 87 = .ok (.goto 5, 3) := allD_get dtX8_bound 44 rfl
theorem dX8_bound_90 : decode cX8_bound 90 = .ok (.iload 4, 2) := allD_get dtX8_bound 45 rfl
theorem dX8_bound_92 : decode cX8_bound 92 = .ok (.istore 4, 2) := allD_get dtX8_bound 46 rfl
theorem dX8_bound_94 : decode cX8_bound 94 = .ok (.iinc 5 1, 3) := allD_get dtX8_bound 47 rfl
theorem dX8_bound_97 : decode cX8_bound 97 = .ok (.goto (-73), 3) := allD_get dtX8_bound 48 rfl
theorem dX8_bound_100 : decode cX8_bound 100 = .ok (.iload 4, 2) := allD_get dtX8_bound 49 rfl
theorem dX8_bound_102 : decode cX8_bound 102 = .ok (.ireturn, 1) := allD_get dtX8_bound 50 rfl
def tbX8_root : List (Nat × Instr × Nat) := [(0, .iconst 0, 1), (1, .istore_n 1, 1), (2, .sipush 8192, 3), (5, .istore_n 2, 1), (6, .iload_n 2, 1), (7, .ifCond .le 29, 3), (10, .iload_n 1, 1), (11, .iload_n 1, 1), (12, .iload_n 2, 1), (13, .iadd, 1), (14, .iload_n 1, 1), (15, .iload_n 2, 1), (16, .iadd, 1), (17, .imul, 1), (18, .iload_n 0, 1), (19, .if_icmp .gt 7, 3), (22, .iload_n 2, 1), (23, .goto 4, 3), (26, .iconst 0, 1), (27, .iadd, 1), (28, .istore_n 1, 1), (29, .iload_n 2, 1), (30, .iconst 2, 1), (31, .idiv, 1), (32, .istore_n 2, 1), (33, .goto (-27), 3), (36, .iload_n 1, 1), (37, .ireturn, 1)]
set_option maxRecDepth 100000 in
theorem dtX8_root : allD cX8_root tbX8_root = true := by decide +kernel
theorem dX8_root_0 : decode cX8_root 0 = .ok (.iconst 0, 1) := allD_get dtX8_root 0 rfl
theorem dX8_root_1 : decode cX8_root 1 = .ok (.istore_n 1, 1) := allD_get dtX8_root 1 rfl
theorem dX8_root_2 : decode cX8_root 2 = .ok (.sipush 8192, 3) := allD_get dtX8_root 2 rfl
theorem dX8_root_5 : decode cX8_root 5 = .ok (.istore_n 2, 1) := allD_get dtX8_root 3 rfl
theorem dX8_root_6 : decode cX8_root 6 = .ok (.iload_n 2, 1) := allD_get dtX8_root 4 rfl
theorem dX8_root_7 : decode cX8_root 7 = .ok (.ifCond .le 29, 3) := allD_get dtX8_root 5 rfl
theorem dX8_root_10 : decode cX8_root 10 = .ok (.iload_n 1, 1) := allD_get dtX8_root 6 rfl
theorem dX8_root_11 : decode cX8_root 11 = .ok (.iload_n 1, 1) := allD_get dtX8_root 7 rfl
theorem dX8_root_12 : decode cX8_root 12 = .ok (.iload_n 2, 1) := allD_get dtX8_root 8 rfl
theorem dX8_root_13 : decode cX8_root 13 = .ok (.iadd, 1) := allD_get dtX8_root 9 rfl
theorem dX8_root_14 : decode cX8_root 14 = .ok (.iload_n 1, 1) := allD_get dtX8_root 10 rfl
theorem dX8_root_15 : decode cX8_root 15 = .ok (.iload_n 2, 1) := allD_get dtX8_root 11 rfl
theorem dX8_root_16 : decode cX8_root 16 = .ok (.iadd, 1) := allD_get dtX8_root 12 rfl
theorem dX8_root_17 : decode cX8_root 17 = .ok (.imul, 1) := allD_get dtX8_root 13 rfl
theorem dX8_root_18 : decode cX8_root 18 = .ok (.iload_n 0, 1) := allD_get dtX8_root 14 rfl
theorem dX8_root_19 : decode cX8_root 19 = .ok (.if_icmp .gt 7, 3) := allD_get dtX8_root 15 rfl
theorem dX8_root_22 : decode cX8_root 22 = .ok (.iload_n 2, 1) := allD_get dtX8_root 16 rfl
theorem dX8_root_23 : decode cX8_root 23 = .ok (.goto 4, 3) := allD_get dtX8_root 17 rfl
theorem dX8_root_26 : decode cX8_root 26 = .ok (.iconst 0, 1) := allD_get dtX8_root 18 rfl
theorem dX8_root_27 : decode cX8_root 27 = .ok (.iadd, 1) := allD_get dtX8_root 19 rfl
theorem dX8_root_28 : decode cX8_root 28 = .ok (.istore_n 1, 1) := allD_get dtX8_root 20 rfl
theorem dX8_root_29 : decode cX8_root 29 = .ok (.iload_n 2, 1) := allD_get dtX8_root 21 rfl
theorem dX8_root_30 : decode cX8_root 30 = .ok (.iconst 2, 1) := allD_get dtX8_root 22 rfl
theorem dX8_root_31 : decode cX8_root 31 = .ok (.idiv, 1) := allD_get dtX8_root 23 rfl
theorem dX8_root_32 : decode cX8_root 32 = .ok (.istore_n 2, 1) := allD_get dtX8_root 24 rfl
theorem dX8_root_33 : decode cX8_root 33 = .ok (.goto (-27), 3) := allD_get dtX8_root 25 rfl
theorem dX8_root_36 : decode cX8_root 36 = .ok (.iload_n 1, 1) := allD_get dtX8_root 26 rfl
theorem dX8_root_37 : decode cX8_root 37 = .ok (.ireturn, 1) := allD_get dtX8_root 27 rfl
def tbX8_longOf : List (Nat × Instr × Nat) := [(0, .iconst 0, 1), (1, .istore_n 2, 1), (2, .iconst 1, 1), (3, .istore_n 3, 1), (4, .iload_n 3, 1), (5, .aload_n 0, 1), (6, .iload_n 1, 1), (7, .invokevirtual 135, 3), (10, .if_icmp .ge 51, 3), (13, .iload_n 2, 1), (14, .bipush 100, 2), (16, .aload_n 0, 1), (17, .iload_n 1, 1), (18, .iload_n 3, 1), (19, .invokevirtual 139, 3), (22, .aload_n 0, 1), (23, .iload_n 1, 1), (24, .iload_n 3, 1), (25, .iconst 1, 1), (26, .isub, 1), (27, .invokevirtual 139, 3), (30, .isub, 1), (31, .aload_n 0, 1), (32, .iload_n 1, 1), (33, .iload_n 3, 1), (34, .invokevirtual 143, 3), (37, .aload_n 0, 1), (38, .iload_n 1, 1), (39, .iload_n 3, 1), (40, .iconst 1, 1), (41, .isub, 1), (42, .invokevirtual 143, 3), (45, .isub, 1), (46, .invokestatic 164, 3), (49, .imul, 1), (50, .invokestatic 185, 3), (53, .iadd, 1), (54, .istore_n 2, 1), (55, .iinc 3 1, 3), (58, .goto (-54), 3), (61, .iload_n 2, 1), (62, .ireturn, 1)]
set_option maxRecDepth 100000 in
theorem dtX8_longOf : allD cX8_longOf tbX8_longOf = true := by decide +kernel
theorem dX8_longOf_0 : decode cX8_longOf 0 = .ok (.iconst 0, 1) := allD_get dtX8_longOf 0 rfl
theorem dX8_longOf_1 : decode cX8_longOf 1 = .ok (.istore_n 2, 1) := allD_get dtX8_longOf 1 rfl
theorem dX8_longOf_2 : decode cX8_longOf 2 = .ok (.iconst 1, 1) := allD_get dtX8_longOf 2 rfl
theorem dX8_longOf_3 : decode cX8_longOf 3 = .ok (.istore_n 3, 1) := allD_get dtX8_longOf 3 rfl
theorem dX8_longOf_4 : decode cX8_longOf 4 = .ok (.iload_n 3, 1) := allD_get dtX8_longOf 4 rfl
theorem dX8_longOf_5 : decode cX8_longOf 5 = .ok (.aload_n 0, 1) := allD_get dtX8_longOf 5 rfl
theorem dX8_longOf_6 : decode cX8_longOf 6 = .ok (.iload_n 1, 1) := allD_get dtX8_longOf 6 rfl
theorem dX8_longOf_7 : decode cX8_longOf 7 = .ok (.invokevirtual 135, 3) := allD_get dtX8_longOf 7 rfl
theorem dX8_longOf_10 : decode cX8_longOf 10 = .ok (.if_icmp .ge 51, 3) := allD_get dtX8_longOf 8 rfl
theorem dX8_longOf_13 : decode cX8_longOf 13 = .ok (.iload_n 2, 1) := allD_get dtX8_longOf 9 rfl
theorem dX8_longOf_14 : decode cX8_longOf 14 = .ok (.bipush 100, 2) := allD_get dtX8_longOf 10 rfl
theorem dX8_longOf_16 : decode cX8_longOf 16 = .ok (.aload_n 0, 1) := allD_get dtX8_longOf 11 rfl
theorem dX8_longOf_17 : decode cX8_longOf 17 = .ok (.iload_n 1, 1) := allD_get dtX8_longOf 12 rfl
theorem dX8_longOf_18 : decode cX8_longOf 18 = .ok (.iload_n 3, 1) := allD_get dtX8_longOf 13 rfl
theorem dX8_longOf_19 : decode cX8_longOf 19 = .ok (.invokevirtual 139, 3) := allD_get dtX8_longOf 14 rfl
theorem dX8_longOf_22 : decode cX8_longOf 22 = .ok (.aload_n 0, 1) := allD_get dtX8_longOf 15 rfl
theorem dX8_longOf_23 : decode cX8_longOf 23 = .ok (.iload_n 1, 1) := allD_get dtX8_longOf 16 rfl
theorem dX8_longOf_24 : decode cX8_longOf 24 = .ok (.iload_n 3, 1) := allD_get dtX8_longOf 17 rfl
theorem dX8_longOf_25 : decode cX8_longOf 25 = .ok (.iconst 1, 1) := allD_get dtX8_longOf 18 rfl
theorem dX8_longOf_26 : decode cX8_longOf 26 = .ok (.isub, 1) := allD_get dtX8_longOf 19 rfl
theorem dX8_longOf_27 : decode cX8_longOf 27 = .ok (.invokevirtual 139, 3) := allD_get dtX8_longOf 20 rfl
theorem dX8_longOf_30 : decode cX8_longOf 30 = .ok (.isub, 1) := allD_get dtX8_longOf 21 rfl
theorem dX8_longOf_31 : decode cX8_longOf 31 = .ok (.aload_n 0, 1) := allD_get dtX8_longOf 22 rfl
theorem dX8_longOf_32 : decode cX8_longOf 32 = .ok (.iload_n 1, 1) := allD_get dtX8_longOf 23 rfl
theorem dX8_longOf_33 : decode cX8_longOf 33 = .ok (.iload_n 3, 1) := allD_get dtX8_longOf 24 rfl
theorem dX8_longOf_34 : decode cX8_longOf 34 = .ok (.invokevirtual 143, 3) := allD_get dtX8_longOf 25 rfl
theorem dX8_longOf_37 : decode cX8_longOf 37 = .ok (.aload_n 0, 1) := allD_get dtX8_longOf 26 rfl
theorem dX8_longOf_38 : decode cX8_longOf 38 = .ok (.iload_n 1, 1) := allD_get dtX8_longOf 27 rfl
theorem dX8_longOf_39 : decode cX8_longOf 39 = .ok (.iload_n 3, 1) := allD_get dtX8_longOf 28 rfl
theorem dX8_longOf_40 : decode cX8_longOf 40 = .ok (.iconst 1, 1) := allD_get dtX8_longOf 29 rfl
theorem dX8_longOf_41 : decode cX8_longOf 41 = .ok (.isub, 1) := allD_get dtX8_longOf 30 rfl
theorem dX8_longOf_42 : decode cX8_longOf 42 = .ok (.invokevirtual 143, 3) := allD_get dtX8_longOf 31 rfl
theorem dX8_longOf_45 : decode cX8_longOf 45 = .ok (.isub, 1) := allD_get dtX8_longOf 32 rfl
theorem dX8_longOf_46 : decode cX8_longOf 46 = .ok (.invokestatic 164, 3) := allD_get dtX8_longOf 33 rfl
theorem dX8_longOf_49 : decode cX8_longOf 49 = .ok (.imul, 1) := allD_get dtX8_longOf 34 rfl
theorem dX8_longOf_50 : decode cX8_longOf 50 = .ok (.invokestatic 185, 3) := allD_get dtX8_longOf 35 rfl
theorem dX8_longOf_53 : decode cX8_longOf 53 = .ok (.iadd, 1) := allD_get dtX8_longOf 36 rfl
theorem dX8_longOf_54 : decode cX8_longOf 54 = .ok (.istore_n 2, 1) := allD_get dtX8_longOf 37 rfl
theorem dX8_longOf_55 : decode cX8_longOf 55 = .ok (.iinc 3 1, 3) := allD_get dtX8_longOf 38 rfl
theorem dX8_longOf_58 : decode cX8_longOf 58 = .ok (.goto (-54), 3) := allD_get dtX8_longOf 39 rfl
theorem dX8_longOf_61 : decode cX8_longOf 61 = .ok (.iload_n 2, 1) := allD_get dtX8_longOf 40 rfl
theorem dX8_longOf_62 : decode cX8_longOf 62 = .ok (.ireturn, 1) := allD_get dtX8_longOf 41 rfl
def tbX8_shared : List (Nat × Instr × Nat) := [(0, .iload_n 2, 1), (1, .aload_n 0, 1), (2, .getfield 57, 3), (5, .iload_n 3, 1), (6, .iaload, 1), (7, .if_icmp .ge 7, 3), (10, .iload_n 2, 1), (11, .goto 9, 3), (14, .aload_n 0, 1), (15, .getfield 57, 3), (18, .iload_n 3, 1), (19, .iaload, 1), (20, .istore 4, 2), (22, .iload_n 1, 1), (23, .aload_n 0, 1), (24, .getfield 54, 3), (27, .iload_n 3, 1), (28, .iaload, 1), (29, .if_icmp .le 7, 3), (32, .iload_n 1, 1), (33, .goto 9, 3), (36, .aload_n 0, 1), (37, .getfield 54, 3), (40, .iload_n 3, 1), (41, .iaload, 1), (42, .istore 5, 2), (44, .iload 4, 2), (46, .iload 5, 2), (48, .isub, 1), (49, .iconst 1, 1), (50, .iadd, 1), (51, .ireturn, 1)]
set_option maxRecDepth 100000 in
theorem dtX8_shared : allD cX8_shared tbX8_shared = true := by decide +kernel
theorem dX8_shared_0 : decode cX8_shared 0 = .ok (.iload_n 2, 1) := allD_get dtX8_shared 0 rfl
theorem dX8_shared_1 : decode cX8_shared 1 = .ok (.aload_n 0, 1) := allD_get dtX8_shared 1 rfl
theorem dX8_shared_2 : decode cX8_shared 2 = .ok (.getfield 57, 3) := allD_get dtX8_shared 2 rfl
theorem dX8_shared_5 : decode cX8_shared 5 = .ok (.iload_n 3, 1) := allD_get dtX8_shared 3 rfl
theorem dX8_shared_6 : decode cX8_shared 6 = .ok (.iaload, 1) := allD_get dtX8_shared 4 rfl
theorem dX8_shared_7 : decode cX8_shared 7 = .ok (.if_icmp .ge 7, 3) := allD_get dtX8_shared 5 rfl
theorem dX8_shared_10 : decode cX8_shared 10 = .ok (.iload_n 2, 1) := allD_get dtX8_shared 6 rfl
theorem dX8_shared_11 : decode cX8_shared 11 = .ok (.goto 9, 3) := allD_get dtX8_shared 7 rfl
theorem dX8_shared_14 : decode cX8_shared 14 = .ok (.aload_n 0, 1) := allD_get dtX8_shared 8 rfl
theorem dX8_shared_15 : decode cX8_shared 15 = .ok (.getfield 57, 3) := allD_get dtX8_shared 9 rfl
theorem dX8_shared_18 : decode cX8_shared 18 = .ok (.iload_n 3, 1) := allD_get dtX8_shared 10 rfl
theorem dX8_shared_19 : decode cX8_shared 19 = .ok (.iaload, 1) := allD_get dtX8_shared 11 rfl
theorem dX8_shared_20 : decode cX8_shared 20 = .ok (.istore 4, 2) := allD_get dtX8_shared 12 rfl
theorem dX8_shared_22 : decode cX8_shared 22 = .ok (.iload_n 1, 1) := allD_get dtX8_shared 13 rfl
theorem dX8_shared_23 : decode cX8_shared 23 = .ok (.aload_n 0, 1) := allD_get dtX8_shared 14 rfl
theorem dX8_shared_24 : decode cX8_shared 24 = .ok (.getfield 54, 3) := allD_get dtX8_shared 15 rfl
theorem dX8_shared_27 : decode cX8_shared 27 = .ok (.iload_n 3, 1) := allD_get dtX8_shared 16 rfl
theorem dX8_shared_28 : decode cX8_shared 28 = .ok (.iaload, 1) := allD_get dtX8_shared 17 rfl
theorem dX8_shared_29 : decode cX8_shared 29 = .ok (.if_icmp .le 7, 3) := allD_get dtX8_shared 18 rfl
theorem dX8_shared_32 : decode cX8_shared 32 = .ok (.iload_n 1, 1) := allD_get dtX8_shared 19 rfl
theorem dX8_shared_33 : decode cX8_shared 33 = .ok (.goto 9, 3) := allD_get dtX8_shared 20 rfl
theorem dX8_shared_36 : decode cX8_shared 36 = .ok (.aload_n 0, 1) := allD_get dtX8_shared 21 rfl
theorem dX8_shared_37 : decode cX8_shared 37 = .ok (.getfield 54, 3) := allD_get dtX8_shared 22 rfl
theorem dX8_shared_40 : decode cX8_shared 40 = .ok (.iload_n 3, 1) := allD_get dtX8_shared 23 rfl
theorem dX8_shared_41 : decode cX8_shared 41 = .ok (.iaload, 1) := allD_get dtX8_shared 24 rfl
theorem dX8_shared_42 : decode cX8_shared 42 = .ok (.istore 5, 2) := allD_get dtX8_shared 25 rfl
theorem dX8_shared_44 : decode cX8_shared 44 = .ok (.iload 4, 2) := allD_get dtX8_shared 26 rfl
theorem dX8_shared_46 : decode cX8_shared 46 = .ok (.iload 5, 2) := allD_get dtX8_shared 27 rfl
theorem dX8_shared_48 : decode cX8_shared 48 = .ok (.isub, 1) := allD_get dtX8_shared 28 rfl
theorem dX8_shared_49 : decode cX8_shared 49 = .ok (.iconst 1, 1) := allD_get dtX8_shared 29 rfl
theorem dX8_shared_50 : decode cX8_shared 50 = .ok (.iadd, 1) := allD_get dtX8_shared 30 rfl
theorem dX8_shared_51 : decode cX8_shared 51 = .ok (.ireturn, 1) := allD_get dtX8_shared 31 rfl
def tbX8_mayJoin : List (Nat × Instr × Nat) := [(0, .aload_n 0, 1), (1, .iload_n 1, 1), (2, .iload_n 2, 1), (3, .iload_n 3, 1), (4, .invokevirtual 188, 3), (7, .istore 4, 2), (9, .iload_n 2, 1), (10, .iload_n 1, 1), (11, .isub, 1), (12, .istore 5, 2), (14, .aload_n 0, 1), (15, .getfield 57, 3), (18, .iload_n 3, 1), (19, .iaload, 1), (20, .aload_n 0, 1), (21, .getfield 54, 3), (24, .iload_n 3, 1), (25, .iaload, 1), (26, .isub, 1), (27, .istore 6, 2), (29, .iload 4, 2), (31, .iconst 1, 1), (32, .if_icmp .lt 30, 3), (35, .iconst 2, 1), (36, .iload 4, 2), (38, .imul, 1), (39, .iload 5, 2), (41, .iload 6, 2), (43, .if_icmp .ge 8, 3), (46, .iload 5, 2), (48, .goto 5, 3), (51, .iload 6, 2), (53, .iconst 1, 1), (54, .iadd, 1), (55, .if_icmp .lt 7, 3), (58, .iconst 1, 1), (59, .goto 4, 3), (62, .iconst 0, 1), (63, .ireturn, 1)]
set_option maxRecDepth 100000 in
theorem dtX8_mayJoin : allD cX8_mayJoin tbX8_mayJoin = true := by decide +kernel
theorem dX8_mayJoin_0 : decode cX8_mayJoin 0 = .ok (.aload_n 0, 1) := allD_get dtX8_mayJoin 0 rfl
theorem dX8_mayJoin_1 : decode cX8_mayJoin 1 = .ok (.iload_n 1, 1) := allD_get dtX8_mayJoin 1 rfl
theorem dX8_mayJoin_2 : decode cX8_mayJoin 2 = .ok (.iload_n 2, 1) := allD_get dtX8_mayJoin 2 rfl
theorem dX8_mayJoin_3 : decode cX8_mayJoin 3 = .ok (.iload_n 3, 1) := allD_get dtX8_mayJoin 3 rfl
theorem dX8_mayJoin_4 : decode cX8_mayJoin 4 = .ok (.invokevirtual 188, 3) := allD_get dtX8_mayJoin 4 rfl
theorem dX8_mayJoin_7 : decode cX8_mayJoin 7 = .ok (.istore 4, 2) := allD_get dtX8_mayJoin 5 rfl
theorem dX8_mayJoin_9 : decode cX8_mayJoin 9 = .ok (.iload_n 2, 1) := allD_get dtX8_mayJoin 6 rfl
theorem dX8_mayJoin_10 : decode cX8_mayJoin 10 = .ok (.iload_n 1, 1) := allD_get dtX8_mayJoin 7 rfl
theorem dX8_mayJoin_11 : decode cX8_mayJoin 11 = .ok (.isub, 1) := allD_get dtX8_mayJoin 8 rfl
theorem dX8_mayJoin_12 : decode cX8_mayJoin 12 = .ok (.istore 5, 2) := allD_get dtX8_mayJoin 9 rfl
theorem dX8_mayJoin_14 : decode cX8_mayJoin 14 = .ok (.aload_n 0, 1) := allD_get dtX8_mayJoin 10 rfl
theorem dX8_mayJoin_15 : decode cX8_mayJoin 15 = .ok (.getfield 57, 3) := allD_get dtX8_mayJoin 11 rfl
theorem dX8_mayJoin_18 : decode cX8_mayJoin 18 = .ok (.iload_n 3, 1) := allD_get dtX8_mayJoin 12 rfl
theorem dX8_mayJoin_19 : decode cX8_mayJoin 19 = .ok (.iaload, 1) := allD_get dtX8_mayJoin 13 rfl
theorem dX8_mayJoin_20 : decode cX8_mayJoin 20 = .ok (.aload_n 0, 1) := allD_get dtX8_mayJoin 14 rfl
theorem dX8_mayJoin_21 : decode cX8_mayJoin 21 = .ok (.getfield 54, 3) := allD_get dtX8_mayJoin 15 rfl
theorem dX8_mayJoin_24 : decode cX8_mayJoin 24 = .ok (.iload_n 3, 1) := allD_get dtX8_mayJoin 16 rfl
theorem dX8_mayJoin_25 : decode cX8_mayJoin 25 = .ok (.iaload, 1) := allD_get dtX8_mayJoin 17 rfl
theorem dX8_mayJoin_26 : decode cX8_mayJoin 26 = .ok (.isub, 1) := allD_get dtX8_mayJoin 18 rfl
theorem dX8_mayJoin_27 : decode cX8_mayJoin 27 = .ok (.istore 6, 2) := allD_get dtX8_mayJoin 19 rfl
theorem dX8_mayJoin_29 : decode cX8_mayJoin 29 = .ok (.iload 4, 2) := allD_get dtX8_mayJoin 20 rfl
theorem dX8_mayJoin_31 : decode cX8_mayJoin 31 = .ok (.iconst 1, 1) := allD_get dtX8_mayJoin 21 rfl
theorem dX8_mayJoin_32 : decode cX8_mayJoin 32 = .ok (.if_icmp .lt 30, 3) := allD_get dtX8_mayJoin 22 rfl
theorem dX8_mayJoin_35 : decode cX8_mayJoin 35 = .ok (.iconst 2, 1) := allD_get dtX8_mayJoin 23 rfl
theorem dX8_mayJoin_36 : decode cX8_mayJoin 36 = .ok (.iload 4, 2) := allD_get dtX8_mayJoin 24 rfl
theorem dX8_mayJoin_38 : decode cX8_mayJoin 38 = .ok (.imul, 1) := allD_get dtX8_mayJoin 25 rfl
theorem dX8_mayJoin_39 : decode cX8_mayJoin 39 = .ok (.iload 5, 2) := allD_get dtX8_mayJoin 26 rfl
theorem dX8_mayJoin_41 : decode cX8_mayJoin 41 = .ok (.iload 6, 2) := allD_get dtX8_mayJoin 27 rfl
theorem dX8_mayJoin_43 : decode cX8_mayJoin 43 = .ok (.if_icmp .ge 8, 3) := allD_get dtX8_mayJoin 28 rfl
theorem dX8_mayJoin_46 : decode cX8_mayJoin 46 = .ok (.iload 5, 2) := allD_get dtX8_mayJoin 29 rfl
theorem dX8_mayJoin_48 : decode cX8_mayJoin 48 = .ok (.goto 5, 3) := allD_get dtX8_mayJoin 30 rfl
theorem dX8_mayJoin_51 : decode cX8_mayJoin 51 = .ok (.iload 6, 2) := allD_get dtX8_mayJoin 31 rfl
theorem dX8_mayJoin_53 : decode cX8_mayJoin 53 = .ok (.iconst 1, 1) := allD_get dtX8_mayJoin 32 rfl
theorem dX8_mayJoin_54 : decode cX8_mayJoin 54 = .ok (.iadd, 1) := allD_get dtX8_mayJoin 33 rfl
theorem dX8_mayJoin_55 : decode cX8_mayJoin 55 = .ok (.if_icmp .lt 7, 3) := allD_get dtX8_mayJoin 34 rfl
theorem dX8_mayJoin_58 : decode cX8_mayJoin 58 = .ok (.iconst 1, 1) := allD_get dtX8_mayJoin 35 rfl
theorem dX8_mayJoin_59 : decode cX8_mayJoin 59 = .ok (.goto 4, 3) := allD_get dtX8_mayJoin 36 rfl
theorem dX8_mayJoin_62 : decode cX8_mayJoin 62 = .ok (.iconst 0, 1) := allD_get dtX8_mayJoin 37 rfl
theorem dX8_mayJoin_63 : decode cX8_mayJoin 63 = .ok (.ireturn, 1) := allD_get dtX8_mayJoin 38 rfl
def tbX8_findLines : List (Nat × Instr × Nat) := [(0, .aload_n 0, 1), (1, .iconst 0, 1), (2, .putfield 192, 3), (5, .iconst 0, 1), (6, .istore_n 1, 1), (7, .iload_n 1, 1), (8, .aload_n 0, 1), (9, .invokevirtual 152, 3), (12, .if_icmp .ge 189, 3), (15, .aload_n 0, 1), (16, .iload_n 1, 1), (17, .iconst 1, 1), (18, .iconst 0, 1), (19, .invokevirtual 195, 3), (22, .istore_n 2, 1), (23, .aload_n 0, 1), (24, .iload_n 1, 1), (25, .iconst 1, 1), (26, .iconst 1, 1), (27, .invokevirtual 195, 3), (30, .istore_n 3, 1), (31, .bipush (-5), 2), (33, .istore 4, 2), (35, .iconst 0, 1), (36, .istore 5, 2), (38, .iload 5, 2), (40, .aload_n 0, 1), (41, .getfield 192, 3), (44, .if_icmp .ge 48, 3), (47, .aload_n 0, 1), (48, .iload_n 2, 1), (49, .iload_n 3, 1), (50, .iload 5, 2), (52, .invokevirtual 199, 3), (55, .ifCond .eq 31, 3), (58, .iload 4, 2), (60, .ifCond .lt 22, 3), (63, .aload_n 0, 1), (64, .iload_n 2, 1), (65, .iload_n 3, 1), (66, .iload 5, 2), (68, .invokevirtual 188, 3), (71, .aload_n 0, 1), (72, .iload_n 2, 1), (73, .iload_n 3, 1), (74, .iload 4, 2), (76, .invokevirtual 188, 3), (79, .if_icmp .le 7, 3), (82, .iload 5, 2), (84, .istore 4, 2), (86, .iinc 5 1, 3), (89, .goto (-51), 3), (92, .iload 4, 2), (94, .ifCond .ge 35, 3), (97, .aload_n 0, 1), (98, .getfield 192, 3), (101, .istore 4, 2), (103, .aload_n 0, 1), (104, .getfield 54, 3), (107, .iload 4, 2), (109, .iload_n 2, 1), (110, .iastore, 1), (111, .aload_n 0, 1), (112, .getfield 57, 3), (115, .iload 4, 2), (117, .iload_n 3, 1), (118, .iastore, 1), (119, .aload_n 0, 1), (120, .dup, 1), (121, .getfield 192, 3), (124, .iconst 1, 1), (125, .iadd, 1), (126, .putfield 192, 3), (129, .aload_n 0, 1), (130, .getfield 54, 3), (133, .iload 4, 2), (135, .iload_n 2, 1), (136, .aload_n 0, 1), (137, .getfield 54, 3), (140, .iload 4, 2), (142, .iaload, 1), (143, .if_icmp .ge 7, 3), (146, .iload_n 2, 1), (147, .goto 10, 3), (150, .aload_n 0, 1), (151, .getfield 54, 3), (154, .iload 4, 2), (156, .iaload, 1), (157, .iastore, 1), (158, .aload_n 0, 1), (159, .getfield 57, 3), (162, .iload 4, 2), (164, .iload_n 3, 1), (165, .aload_n 0, 1), (166, .getfield 57, 3), (169, .iload 4, 2), (171, .iaload, 1), (172, .if_icmp .le 7, 3), (175, .iload_n 3, 1), (176, .goto 10, 3), (179, .aload_n 0, 1), (180, .getfield 57, 3), (183, .iload 4, 2), (185, .iaload, 1), (186, .iastore, 1), (187, .aload_n 0, 1), (188, .getfield 60, 3), (191, .iload_n 1, 1), (192, .iload 4, 2), (194, .iastore, 1), (195, .iinc 1 1, 3), (198, .goto (-191), 3), (201, .iconst 0, 1), (202, .istore_n 1, 1), (203, .iload_n 1, 1), (204, .aload_n 0, 1), (205, .getfield 192, 3), (208, .if_icmp .ge 55, 3), (211, .aload_n 0, 1), (212, .getfield 63, 3), (215, .iload_n 1, 1), (216, .iconst 0, 1), (217, .iastore, 1), (218, .iconst 0, 1), (219, .istore_n 2, 1), (220, .iload_n 2, 1), (221, .aload_n 0, 1), (222, .getfield 192, 3), (225, .if_icmp .ge 32, 3), (228, .aload_n 0, 1), (229, .getfield 63, 3), (232, .iload_n 1, 1), (233, .dup2, 1), (234, .iaload, 1), (235, .aload_n 0, 1), (236, .iload_n 2, 1), (237, .iload_n 1, 1), (238, .invokevirtual 202, 3), (241, .ifCond .eq 7, 3), (244, .iconst 1, 1), (245, .goto 4, 3), (248, .iconst 0, 1), (249, .iadd, 1), (250, .iastore, 1), (251, .iinc 2 1, 3), (254, .goto (-34), 3), (257, .iinc 1 1, 3), (260, .goto (-57), 3), (263, .return_, 1)]
set_option maxRecDepth 100000 in
theorem dtX8_findLines : allD cX8_findLines tbX8_findLines = true := by decide +kernel
theorem dX8_findLines_0 : decode cX8_findLines 0 = .ok (.aload_n 0, 1) := allD_get dtX8_findLines 0 rfl
theorem dX8_findLines_1 : decode cX8_findLines 1 = .ok (.iconst 0, 1) := allD_get dtX8_findLines 1 rfl
theorem dX8_findLines_2 : decode cX8_findLines 2 = .ok (.putfield 192, 3) := allD_get dtX8_findLines 2 rfl
theorem dX8_findLines_5 : decode cX8_findLines 5 = .ok (.iconst 0, 1) := allD_get dtX8_findLines 3 rfl
theorem dX8_findLines_6 : decode cX8_findLines 6 = .ok (.istore_n 1, 1) := allD_get dtX8_findLines 4 rfl
theorem dX8_findLines_7 : decode cX8_findLines 7 = .ok (.iload_n 1, 1) := allD_get dtX8_findLines 5 rfl
theorem dX8_findLines_8 : decode cX8_findLines 8 = .ok (.aload_n 0, 1) := allD_get dtX8_findLines 6 rfl
theorem dX8_findLines_9 : decode cX8_findLines 9 = .ok (.invokevirtual 152, 3) := allD_get dtX8_findLines 7 rfl
theorem dX8_findLines_12 : decode cX8_findLines 12 = .ok (.if_icmp .ge 189, 3) := allD_get dtX8_findLines 8 rfl
theorem dX8_findLines_15 : decode cX8_findLines 15 = .ok (.aload_n 0, 1) := allD_get dtX8_findLines 9 rfl
theorem dX8_findLines_16 : decode cX8_findLines 16 = .ok (.iload_n 1, 1) := allD_get dtX8_findLines 10 rfl
theorem dX8_findLines_17 : decode cX8_findLines 17 = .ok (.iconst 1, 1) := allD_get dtX8_findLines 11 rfl
theorem dX8_findLines_18 : decode cX8_findLines 18 = .ok (.iconst 0, 1) := allD_get dtX8_findLines 12 rfl
theorem dX8_findLines_19 : decode cX8_findLines 19 = .ok (.invokevirtual 195, 3) := allD_get dtX8_findLines 13 rfl
theorem dX8_findLines_22 : decode cX8_findLines 22 = .ok (.istore_n 2, 1) := allD_get dtX8_findLines 14 rfl
theorem dX8_findLines_23 : decode cX8_findLines 23 = .ok (.aload_n 0, 1) := allD_get dtX8_findLines 15 rfl
theorem dX8_findLines_24 : decode cX8_findLines 24 = .ok (.iload_n 1, 1) := allD_get dtX8_findLines 16 rfl
theorem dX8_findLines_25 : decode cX8_findLines 25 = .ok (.iconst 1, 1) := allD_get dtX8_findLines 17 rfl
theorem dX8_findLines_26 : decode cX8_findLines 26 = .ok (.iconst 1, 1) := allD_get dtX8_findLines 18 rfl
theorem dX8_findLines_27 : decode cX8_findLines 27 = .ok (.invokevirtual 195, 3) := allD_get dtX8_findLines 19 rfl
theorem dX8_findLines_30 : decode cX8_findLines 30 = .ok (.istore_n 3, 1) := allD_get dtX8_findLines 20 rfl
theorem dX8_findLines_31 : decode cX8_findLines 31 = .ok (.bipush (-5), 2) := allD_get dtX8_findLines 21 rfl
theorem dX8_findLines_33 : decode cX8_findLines 33 = .ok (.istore 4, 2) := allD_get dtX8_findLines 22 rfl
theorem dX8_findLines_35 : decode cX8_findLines 35 = .ok (.iconst 0, 1) := allD_get dtX8_findLines 23 rfl
theorem dX8_findLines_36 : decode cX8_findLines 36 = .ok (.istore 5, 2) := allD_get dtX8_findLines 24 rfl
theorem dX8_findLines_38 : decode cX8_findLines 38 = .ok (.iload 5, 2) := allD_get dtX8_findLines 25 rfl
theorem dX8_findLines_40 : decode cX8_findLines 40 = .ok (.aload_n 0, 1) := allD_get dtX8_findLines 26 rfl
theorem dX8_findLines_41 : decode cX8_findLines 41 = .ok (.getfield 192, 3) := allD_get dtX8_findLines 27 rfl
theorem dX8_findLines_44 : decode cX8_findLines 44 = .ok (.if_icmp .ge 48, 3) := allD_get dtX8_findLines 28 rfl
theorem dX8_findLines_47 : decode cX8_findLines 47 = .ok (.aload_n 0, 1) := allD_get dtX8_findLines 29 rfl
theorem dX8_findLines_48 : decode cX8_findLines 48 = .ok (.iload_n 2, 1) := allD_get dtX8_findLines 30 rfl
theorem dX8_findLines_49 : decode cX8_findLines 49 = .ok (.iload_n 3, 1) := allD_get dtX8_findLines 31 rfl
theorem dX8_findLines_50 : decode cX8_findLines 50 = .ok (.iload 5, 2) := allD_get dtX8_findLines 32 rfl
theorem dX8_findLines_52 : decode cX8_findLines 52 = .ok (.invokevirtual 199, 3) := allD_get dtX8_findLines 33 rfl
theorem dX8_findLines_55 : decode cX8_findLines 55 = .ok (.ifCond .eq 31, 3) := allD_get dtX8_findLines 34 rfl
theorem dX8_findLines_58 : decode cX8_findLines 58 = .ok (.iload 4, 2) := allD_get dtX8_findLines 35 rfl
theorem dX8_findLines_60 : decode cX8_findLines 60 = .ok (.ifCond .lt 22, 3) := allD_get dtX8_findLines 36 rfl
theorem dX8_findLines_63 : decode cX8_findLines 63 = .ok (.aload_n 0, 1) := allD_get dtX8_findLines 37 rfl
theorem dX8_findLines_64 : decode cX8_findLines 64 = .ok (.iload_n 2, 1) := allD_get dtX8_findLines 38 rfl
theorem dX8_findLines_65 : decode cX8_findLines 65 = .ok (.iload_n 3, 1) := allD_get dtX8_findLines 39 rfl
theorem dX8_findLines_66 : decode cX8_findLines 66 = .ok (.iload 5, 2) := allD_get dtX8_findLines 40 rfl
theorem dX8_findLines_68 : decode cX8_findLines 68 = .ok (.invokevirtual 188, 3) := allD_get dtX8_findLines 41 rfl
theorem dX8_findLines_71 : decode cX8_findLines 71 = .ok (.aload_n 0, 1) := allD_get dtX8_findLines 42 rfl
theorem dX8_findLines_72 : decode cX8_findLines 72 = .ok (.iload_n 2, 1) := allD_get dtX8_findLines 43 rfl
theorem dX8_findLines_73 : decode cX8_findLines 73 = .ok (.iload_n 3, 1) := allD_get dtX8_findLines 44 rfl
theorem dX8_findLines_74 : decode cX8_findLines 74 = .ok (.iload 4, 2) := allD_get dtX8_findLines 45 rfl
theorem dX8_findLines_76 : decode cX8_findLines 76 = .ok (.invokevirtual 188, 3) := allD_get dtX8_findLines 46 rfl
theorem dX8_findLines_79 : decode cX8_findLines 79 = .ok (.if_icmp .le 7, 3) := allD_get dtX8_findLines 47 rfl
theorem dX8_findLines_82 : decode cX8_findLines 82 = .ok (.iload 5, 2) := allD_get dtX8_findLines 48 rfl
theorem dX8_findLines_84 : decode cX8_findLines 84 = .ok (.istore 4, 2) := allD_get dtX8_findLines 49 rfl
theorem dX8_findLines_86 : decode cX8_findLines 86 = .ok (.iinc 5 1, 3) := allD_get dtX8_findLines 50 rfl
theorem dX8_findLines_89 : decode cX8_findLines 89 = .ok (.goto (-51), 3) := allD_get dtX8_findLines 51 rfl
theorem dX8_findLines_92 : decode cX8_findLines 92 = .ok (.iload 4, 2) := allD_get dtX8_findLines 52 rfl
theorem dX8_findLines_94 : decode cX8_findLines 94 = .ok (.ifCond .ge 35, 3) := allD_get dtX8_findLines 53 rfl
theorem dX8_findLines_97 : decode cX8_findLines 97 = .ok (.aload_n 0, 1) := allD_get dtX8_findLines 54 rfl
theorem dX8_findLines_98 : decode cX8_findLines 98 = .ok (.getfield 192, 3) := allD_get dtX8_findLines 55 rfl
theorem dX8_findLines_101 : decode cX8_findLines 101 = .ok (.istore 4, 2) := allD_get dtX8_findLines 56 rfl
theorem dX8_findLines_103 : decode cX8_findLines 103 = .ok (.aload_n 0, 1) := allD_get dtX8_findLines 57 rfl
theorem dX8_findLines_104 : decode cX8_findLines 104 = .ok (.getfield 54, 3) := allD_get dtX8_findLines 58 rfl
theorem dX8_findLines_107 : decode cX8_findLines 107 = .ok (.iload 4, 2) := allD_get dtX8_findLines 59 rfl
theorem dX8_findLines_109 : decode cX8_findLines 109 = .ok (.iload_n 2, 1) := allD_get dtX8_findLines 60 rfl
theorem dX8_findLines_110 : decode cX8_findLines 110 = .ok (.iastore, 1) := allD_get dtX8_findLines 61 rfl
theorem dX8_findLines_111 : decode cX8_findLines 111 = .ok (.aload_n 0, 1) := allD_get dtX8_findLines 62 rfl
theorem dX8_findLines_112 : decode cX8_findLines 112 = .ok (.getfield 57, 3) := allD_get dtX8_findLines 63 rfl
theorem dX8_findLines_115 : decode cX8_findLines 115 = .ok (.iload 4, 2) := allD_get dtX8_findLines 64 rfl
theorem dX8_findLines_117 : decode cX8_findLines 117 = .ok (.iload_n 3, 1) := allD_get dtX8_findLines 65 rfl
theorem dX8_findLines_118 : decode cX8_findLines 118 = .ok (.iastore, 1) := allD_get dtX8_findLines 66 rfl
theorem dX8_findLines_119 : decode cX8_findLines 119 = .ok (.aload_n 0, 1) := allD_get dtX8_findLines 67 rfl
theorem dX8_findLines_120 : decode cX8_findLines 120 = .ok (.dup, 1) := allD_get dtX8_findLines 68 rfl
theorem dX8_findLines_121 : decode cX8_findLines 121 = .ok (.getfield 192, 3) := allD_get dtX8_findLines 69 rfl
theorem dX8_findLines_124 : decode cX8_findLines 124 = .ok (.iconst 1, 1) := allD_get dtX8_findLines 70 rfl
theorem dX8_findLines_125 : decode cX8_findLines 125 = .ok (.iadd, 1) := allD_get dtX8_findLines 71 rfl
theorem dX8_findLines_126 : decode cX8_findLines 126 = .ok (.putfield 192, 3) := allD_get dtX8_findLines 72 rfl
theorem dX8_findLines_129 : decode cX8_findLines 129 = .ok (.aload_n 0, 1) := allD_get dtX8_findLines 73 rfl
theorem dX8_findLines_130 : decode cX8_findLines 130 = .ok (.getfield 54, 3) := allD_get dtX8_findLines 74 rfl
theorem dX8_findLines_133 : decode cX8_findLines 133 = .ok (.iload 4, 2) := allD_get dtX8_findLines 75 rfl
theorem dX8_findLines_135 : decode cX8_findLines 135 = .ok (.iload_n 2, 1) := allD_get dtX8_findLines 76 rfl
theorem dX8_findLines_136 : decode cX8_findLines 136 = .ok (.aload_n 0, 1) := allD_get dtX8_findLines 77 rfl
theorem dX8_findLines_137 : decode cX8_findLines 137 = .ok (.getfield 54, 3) := allD_get dtX8_findLines 78 rfl
theorem dX8_findLines_140 : decode cX8_findLines 140 = .ok (.iload 4, 2) := allD_get dtX8_findLines 79 rfl
theorem dX8_findLines_142 : decode cX8_findLines 142 = .ok (.iaload, 1) := allD_get dtX8_findLines 80 rfl
theorem dX8_findLines_143 : decode cX8_findLines 143 = .ok (.if_icmp .ge 7, 3) := allD_get dtX8_findLines 81 rfl
theorem dX8_findLines_146 : decode cX8_findLines 146 = .ok (.iload_n 2, 1) := allD_get dtX8_findLines 82 rfl
theorem dX8_findLines_147 : decode cX8_findLines 147 = .ok (.goto 10, 3) := allD_get dtX8_findLines 83 rfl
theorem dX8_findLines_150 : decode cX8_findLines 150 = .ok (.aload_n 0, 1) := allD_get dtX8_findLines 84 rfl
theorem dX8_findLines_151 : decode cX8_findLines 151 = .ok (.getfield 54, 3) := allD_get dtX8_findLines 85 rfl
theorem dX8_findLines_154 : decode cX8_findLines 154 = .ok (.iload 4, 2) := allD_get dtX8_findLines 86 rfl
theorem dX8_findLines_156 : decode cX8_findLines 156 = .ok (.iaload, 1) := allD_get dtX8_findLines 87 rfl
theorem dX8_findLines_157 : decode cX8_findLines 157 = .ok (.iastore, 1) := allD_get dtX8_findLines 88 rfl
theorem dX8_findLines_158 : decode cX8_findLines 158 = .ok (.aload_n 0, 1) := allD_get dtX8_findLines 89 rfl
theorem dX8_findLines_159 : decode cX8_findLines 159 = .ok (.getfield 57, 3) := allD_get dtX8_findLines 90 rfl
theorem dX8_findLines_162 : decode cX8_findLines 162 = .ok (.iload 4, 2) := allD_get dtX8_findLines 91 rfl
theorem dX8_findLines_164 : decode cX8_findLines 164 = .ok (.iload_n 3, 1) := allD_get dtX8_findLines 92 rfl
theorem dX8_findLines_165 : decode cX8_findLines 165 = .ok (.aload_n 0, 1) := allD_get dtX8_findLines 93 rfl
theorem dX8_findLines_166 : decode cX8_findLines 166 = .ok (.getfield 57, 3) := allD_get dtX8_findLines 94 rfl
theorem dX8_findLines_169 : decode cX8_findLines 169 = .ok (.iload 4, 2) := allD_get dtX8_findLines 95 rfl
theorem dX8_findLines_171 : decode cX8_findLines 171 = .ok (.iaload, 1) := allD_get dtX8_findLines 96 rfl
theorem dX8_findLines_172 : decode cX8_findLines 172 = .ok (.if_icmp .le 7, 3) := allD_get dtX8_findLines 97 rfl
theorem dX8_findLines_175 : decode cX8_findLines 175 = .ok (.iload_n 3, 1) := allD_get dtX8_findLines 98 rfl
theorem dX8_findLines_176 : decode cX8_findLines 176 = .ok (.goto 10, 3) := allD_get dtX8_findLines 99 rfl
theorem dX8_findLines_179 : decode cX8_findLines 179 = .ok (.aload_n 0, 1) := allD_get dtX8_findLines 100 rfl
theorem dX8_findLines_180 : decode cX8_findLines 180 = .ok (.getfield 57, 3) := allD_get dtX8_findLines 101 rfl
theorem dX8_findLines_183 : decode cX8_findLines 183 = .ok (.iload 4, 2) := allD_get dtX8_findLines 102 rfl
theorem dX8_findLines_185 : decode cX8_findLines 185 = .ok (.iaload, 1) := allD_get dtX8_findLines 103 rfl
theorem dX8_findLines_186 : decode cX8_findLines 186 = .ok (.iastore, 1) := allD_get dtX8_findLines 104 rfl
theorem dX8_findLines_187 : decode cX8_findLines 187 = .ok (.aload_n 0, 1) := allD_get dtX8_findLines 105 rfl
theorem dX8_findLines_188 : decode cX8_findLines 188 = .ok (.getfield 60, 3) := allD_get dtX8_findLines 106 rfl
theorem dX8_findLines_191 : decode cX8_findLines 191 = .ok (.iload_n 1, 1) := allD_get dtX8_findLines 107 rfl
theorem dX8_findLines_192 : decode cX8_findLines 192 = .ok (.iload 4, 2) := allD_get dtX8_findLines 108 rfl
theorem dX8_findLines_194 : decode cX8_findLines 194 = .ok (.iastore, 1) := allD_get dtX8_findLines 109 rfl
theorem dX8_findLines_195 : decode cX8_findLines 195 = .ok (.iinc 1 1, 3) := allD_get dtX8_findLines 110 rfl
theorem dX8_findLines_198 : decode cX8_findLines 198 = .ok (.goto (-191), 3) := allD_get dtX8_findLines 111 rfl
theorem dX8_findLines_201 : decode cX8_findLines 201 = .ok (.iconst 0, 1) := allD_get dtX8_findLines 112 rfl
theorem dX8_findLines_202 : decode cX8_findLines 202 = .ok (.istore_n 1, 1) := allD_get dtX8_findLines 113 rfl
theorem dX8_findLines_203 : decode cX8_findLines 203 = .ok (.iload_n 1, 1) := allD_get dtX8_findLines 114 rfl
theorem dX8_findLines_204 : decode cX8_findLines 204 = .ok (.aload_n 0, 1) := allD_get dtX8_findLines 115 rfl
theorem dX8_findLines_205 : decode cX8_findLines 205 = .ok (.getfield 192, 3) := allD_get dtX8_findLines 116 rfl
theorem dX8_findLines_208 : decode cX8_findLines 208 = .ok (.if_icmp .ge 55, 3) := allD_get dtX8_findLines 117 rfl
theorem dX8_findLines_211 : decode cX8_findLines 211 = .ok (.aload_n 0, 1) := allD_get dtX8_findLines 118 rfl
theorem dX8_findLines_212 : decode cX8_findLines 212 = .ok (.getfield 63, 3) := allD_get dtX8_findLines 119 rfl
theorem dX8_findLines_215 : decode cX8_findLines 215 = .ok (.iload_n 1, 1) := allD_get dtX8_findLines 120 rfl
theorem dX8_findLines_216 : decode cX8_findLines 216 = .ok (.iconst 0, 1) := allD_get dtX8_findLines 121 rfl
theorem dX8_findLines_217 : decode cX8_findLines 217 = .ok (.iastore, 1) := allD_get dtX8_findLines 122 rfl
theorem dX8_findLines_218 : decode cX8_findLines 218 = .ok (.iconst 0, 1) := allD_get dtX8_findLines 123 rfl
theorem dX8_findLines_219 : decode cX8_findLines 219 = .ok (.istore_n 2, 1) := allD_get dtX8_findLines 124 rfl
theorem dX8_findLines_220 : decode cX8_findLines 220 = .ok (.iload_n 2, 1) := allD_get dtX8_findLines 125 rfl
theorem dX8_findLines_221 : decode cX8_findLines 221 = .ok (.aload_n 0, 1) := allD_get dtX8_findLines 126 rfl
theorem dX8_findLines_222 : decode cX8_findLines 222 = .ok (.getfield 192, 3) := allD_get dtX8_findLines 127 rfl
theorem dX8_findLines_225 : decode cX8_findLines 225 = .ok (.if_icmp .ge 32, 3) := allD_get dtX8_findLines 128 rfl
theorem dX8_findLines_228 : decode cX8_findLines 228 = .ok (.aload_n 0, 1) := allD_get dtX8_findLines 129 rfl
theorem dX8_findLines_229 : decode cX8_findLines 229 = .ok (.getfield 63, 3) := allD_get dtX8_findLines 130 rfl
theorem dX8_findLines_232 : decode cX8_findLines 232 = .ok (.iload_n 1, 1) := allD_get dtX8_findLines 131 rfl
theorem dX8_findLines_233 : decode cX8_findLines 233 = .ok (.dup2, 1) := allD_get dtX8_findLines 132 rfl
theorem dX8_findLines_234 : decode cX8_findLines 234 = .ok (.iaload, 1) := allD_get dtX8_findLines 133 rfl
theorem dX8_findLines_235 : decode cX8_findLines 235 = .ok (.aload_n 0, 1) := allD_get dtX8_findLines 134 rfl
theorem dX8_findLines_236 : decode cX8_findLines 236 = .ok (.iload_n 2, 1) := allD_get dtX8_findLines 135 rfl
theorem dX8_findLines_237 : decode cX8_findLines 237 = .ok (.iload_n 1, 1) := allD_get dtX8_findLines 136 rfl
theorem dX8_findLines_238 : decode cX8_findLines 238 = .ok (.invokevirtual 202, 3) := allD_get dtX8_findLines 137 rfl
theorem dX8_findLines_241 : decode cX8_findLines 241 = .ok (.ifCond .eq 7, 3) := allD_get dtX8_findLines 138 rfl
theorem dX8_findLines_244 : decode cX8_findLines 244 = .ok (.iconst 1, 1) := allD_get dtX8_findLines 139 rfl
theorem dX8_findLines_245 : decode cX8_findLines 245 = .ok (.goto 4, 3) := allD_get dtX8_findLines 140 rfl
theorem dX8_findLines_248 : decode cX8_findLines 248 = .ok (.iconst 0, 1) := allD_get dtX8_findLines 141 rfl
theorem dX8_findLines_249 : decode cX8_findLines 249 = .ok (.iadd, 1) := allD_get dtX8_findLines 142 rfl
theorem dX8_findLines_250 : decode cX8_findLines 250 = .ok (.iastore, 1) := allD_get dtX8_findLines 143 rfl
theorem dX8_findLines_251 : decode cX8_findLines 251 = .ok (.iinc 2 1, 3) := allD_get dtX8_findLines 144 rfl
theorem dX8_findLines_254 : decode cX8_findLines 254 = .ok (.goto (-34), 3) := allD_get dtX8_findLines 145 rfl
theorem dX8_findLines_257 : decode cX8_findLines 257 = .ok (.iinc 1 1, 3) := allD_get dtX8_findLines 146 rfl
theorem dX8_findLines_260 : decode cX8_findLines 260 = .ok (.goto (-57), 3) := allD_get dtX8_findLines 147 rfl
theorem dX8_findLines_263 : decode cX8_findLines 263 = .ok (.return_, 1) := allD_get dtX8_findLines 148 rfl
def tbX8_isAbove : List (Nat × Instr × Nat) := [(0, .aload_n 0, 1), (1, .getfield 54, 3), (4, .iload_n 1, 1), (5, .iaload, 1), (6, .aload_n 0, 1), (7, .getfield 54, 3), (10, .iload_n 2, 1), (11, .iaload, 1), (12, .if_icmp .eq 24, 3), (15, .aload_n 0, 1), (16, .getfield 54, 3), (19, .iload_n 1, 1), (20, .iaload, 1), (21, .aload_n 0, 1), (22, .getfield 54, 3), (25, .iload_n 2, 1), (26, .iaload, 1), (27, .if_icmp .ge 7, 3), (30, .iconst 1, 1), (31, .goto 4, 3), (34, .iconst 0, 1), (35, .ireturn, 1), (36, .aload_n 0, 1), (37, .getfield 57, 3), (40, .iload_n 1, 1), (41, .iaload, 1), (42, .aload_n 0, 1), (43, .getfield 57, 3), (46, .iload_n 2, 1), (47, .iaload, 1), (48, .if_icmp .eq 26, 3), (51, .aload_n 0, 1), (52, .getfield 57, 3), (55, .iload_n 1, 1), (56, .iaload, 1), (57, .aload_n 0, 1), (58, .getfield 57, 3), (61, .iload_n 2, 1), (62, .iaload, 1), (63, .if_icmp .ge 7, 3), (66, .iconst 1, 1), (67, .goto 17, 3), (70, .iconst 0, 1), (71, .goto 13, 3), (74, .iload_n 1, 1), (75, .iload_n 2, 1), (76, .if_icmp .ge 7, 3), (79, .iconst 1, 1), (80, .goto 4, 3), (83, .iconst 0, 1), (84, .ireturn, 1)]
set_option maxRecDepth 100000 in
theorem dtX8_isAbove : allD cX8_isAbove tbX8_isAbove = true := by decide +kernel
theorem dX8_isAbove_0 : decode cX8_isAbove 0 = .ok (.aload_n 0, 1) := allD_get dtX8_isAbove 0 rfl
theorem dX8_isAbove_1 : decode cX8_isAbove 1 = .ok (.getfield 54, 3) := allD_get dtX8_isAbove 1 rfl
theorem dX8_isAbove_4 : decode cX8_isAbove 4 = .ok (.iload_n 1, 1) := allD_get dtX8_isAbove 2 rfl
theorem dX8_isAbove_5 : decode cX8_isAbove 5 = .ok (.iaload, 1) := allD_get dtX8_isAbove 3 rfl
theorem dX8_isAbove_6 : decode cX8_isAbove 6 = .ok (.aload_n 0, 1) := allD_get dtX8_isAbove 4 rfl
theorem dX8_isAbove_7 : decode cX8_isAbove 7 = .ok (.getfield 54, 3) := allD_get dtX8_isAbove 5 rfl
theorem dX8_isAbove_10 : decode cX8_isAbove 10 = .ok (.iload_n 2, 1) := allD_get dtX8_isAbove 6 rfl
theorem dX8_isAbove_11 : decode cX8_isAbove 11 = .ok (.iaload, 1) := allD_get dtX8_isAbove 7 rfl
theorem dX8_isAbove_12 : decode cX8_isAbove 12 = .ok (.if_icmp .eq 24, 3) := allD_get dtX8_isAbove 8 rfl
theorem dX8_isAbove_15 : decode cX8_isAbove 15 = .ok (.aload_n 0, 1) := allD_get dtX8_isAbove 9 rfl
theorem dX8_isAbove_16 : decode cX8_isAbove 16 = .ok (.getfield 54, 3) := allD_get dtX8_isAbove 10 rfl
theorem dX8_isAbove_19 : decode cX8_isAbove 19 = .ok (.iload_n 1, 1) := allD_get dtX8_isAbove 11 rfl
theorem dX8_isAbove_20 : decode cX8_isAbove 20 = .ok (.iaload, 1) := allD_get dtX8_isAbove 12 rfl
theorem dX8_isAbove_21 : decode cX8_isAbove 21 = .ok (.aload_n 0, 1) := allD_get dtX8_isAbove 13 rfl
theorem dX8_isAbove_22 : decode cX8_isAbove 22 = .ok (.getfield 54, 3) := allD_get dtX8_isAbove 14 rfl
theorem dX8_isAbove_25 : decode cX8_isAbove 25 = .ok (.iload_n 2, 1) := allD_get dtX8_isAbove 15 rfl
theorem dX8_isAbove_26 : decode cX8_isAbove 26 = .ok (.iaload, 1) := allD_get dtX8_isAbove 16 rfl
theorem dX8_isAbove_27 : decode cX8_isAbove 27 = .ok (.if_icmp .ge 7, 3) := allD_get dtX8_isAbove 17 rfl
theorem dX8_isAbove_30 : decode cX8_isAbove 30 = .ok (.iconst 1, 1) := allD_get dtX8_isAbove 18 rfl
theorem dX8_isAbove_31 : decode cX8_isAbove 31 = .ok (.goto 4, 3) := allD_get dtX8_isAbove 19 rfl
theorem dX8_isAbove_34 : decode cX8_isAbove 34 = .ok (.iconst 0, 1) := allD_get dtX8_isAbove 20 rfl
theorem dX8_isAbove_35 : decode cX8_isAbove 35 = .ok (.ireturn, 1) := allD_get dtX8_isAbove 21 rfl
theorem dX8_isAbove_36 : decode cX8_isAbove 36 = .ok (.aload_n 0, 1) := allD_get dtX8_isAbove 22 rfl
theorem dX8_isAbove_37 : decode cX8_isAbove 37 = .ok (.getfield 57, 3) := allD_get dtX8_isAbove 23 rfl
theorem dX8_isAbove_40 : decode cX8_isAbove 40 = .ok (.iload_n 1, 1) := allD_get dtX8_isAbove 24 rfl
theorem dX8_isAbove_41 : decode cX8_isAbove 41 = .ok (.iaload, 1) := allD_get dtX8_isAbove 25 rfl
theorem dX8_isAbove_42 : decode cX8_isAbove 42 = .ok (.aload_n 0, 1) := allD_get dtX8_isAbove 26 rfl
theorem dX8_isAbove_43 : decode cX8_isAbove 43 = .ok (.getfield 57, 3) := allD_get dtX8_isAbove 27 rfl
theorem dX8_isAbove_46 : decode cX8_isAbove 46 = .ok (.iload_n 2, 1) := allD_get dtX8_isAbove 28 rfl
theorem dX8_isAbove_47 : decode cX8_isAbove 47 = .ok (.iaload, 1) := allD_get dtX8_isAbove 29 rfl
theorem dX8_isAbove_48 : decode cX8_isAbove 48 = .ok (.if_icmp .eq 26, 3) := allD_get dtX8_isAbove 30 rfl
theorem dX8_isAbove_51 : decode cX8_isAbove 51 = .ok (.aload_n 0, 1) := allD_get dtX8_isAbove 31 rfl
theorem dX8_isAbove_52 : decode cX8_isAbove 52 = .ok (.getfield 57, 3) := allD_get dtX8_isAbove 32 rfl
theorem dX8_isAbove_55 : decode cX8_isAbove 55 = .ok (.iload_n 1, 1) := allD_get dtX8_isAbove 33 rfl
theorem dX8_isAbove_56 : decode cX8_isAbove 56 = .ok (.iaload, 1) := allD_get dtX8_isAbove 34 rfl
theorem dX8_isAbove_57 : decode cX8_isAbove 57 = .ok (.aload_n 0, 1) := allD_get dtX8_isAbove 35 rfl
theorem dX8_isAbove_58 : decode cX8_isAbove 58 = .ok (.getfield 57, 3) := allD_get dtX8_isAbove 36 rfl
theorem dX8_isAbove_61 : decode cX8_isAbove 61 = .ok (.iload_n 2, 1) := allD_get dtX8_isAbove 37 rfl
theorem dX8_isAbove_62 : decode cX8_isAbove 62 = .ok (.iaload, 1) := allD_get dtX8_isAbove 38 rfl
theorem dX8_isAbove_63 : decode cX8_isAbove 63 = .ok (.if_icmp .ge 7, 3) := allD_get dtX8_isAbove 39 rfl
theorem dX8_isAbove_66 : decode cX8_isAbove 66 = .ok (.iconst 1, 1) := allD_get dtX8_isAbove 40 rfl
theorem dX8_isAbove_67 : decode cX8_isAbove 67 = .ok (.goto 17, 3) := allD_get dtX8_isAbove 41 rfl
theorem dX8_isAbove_70 : decode cX8_isAbove 70 = .ok (.iconst 0, 1) := allD_get dtX8_isAbove 42 rfl
theorem dX8_isAbove_71 : decode cX8_isAbove 71 = .ok (.goto 13, 3) := allD_get dtX8_isAbove 43 rfl
theorem dX8_isAbove_74 : decode cX8_isAbove 74 = .ok (.iload_n 1, 1) := allD_get dtX8_isAbove 44 rfl
theorem dX8_isAbove_75 : decode cX8_isAbove 75 = .ok (.iload_n 2, 1) := allD_get dtX8_isAbove 45 rfl
theorem dX8_isAbove_76 : decode cX8_isAbove 76 = .ok (.if_icmp .ge 7, 3) := allD_get dtX8_isAbove 46 rfl
theorem dX8_isAbove_79 : decode cX8_isAbove 79 = .ok (.iconst 1, 1) := allD_get dtX8_isAbove 47 rfl
theorem dX8_isAbove_80 : decode cX8_isAbove 80 = .ok (.goto 4, 3) := allD_get dtX8_isAbove 48 rfl
theorem dX8_isAbove_83 : decode cX8_isAbove 83 = .ok (.iconst 0, 1) := allD_get dtX8_isAbove 49 rfl
theorem dX8_isAbove_84 : decode cX8_isAbove 84 = .ok (.ireturn, 1) := allD_get dtX8_isAbove 50 rfl
def tbX8_lineOf : List (Nat × Instr × Nat) := [(0, .aload_n 0, 1), (1, .getfield 63, 3), (4, .aload_n 0, 1), (5, .getfield 60, 3), (8, .iload_n 1, 1), (9, .iaload, 1), (10, .iaload, 1), (11, .ireturn, 1)]
set_option maxRecDepth 100000 in
theorem dtX8_lineOf : allD cX8_lineOf tbX8_lineOf = true := by decide +kernel
theorem dX8_lineOf_0 : decode cX8_lineOf 0 = .ok (.aload_n 0, 1) := allD_get dtX8_lineOf 0 rfl
theorem dX8_lineOf_1 : decode cX8_lineOf 1 = .ok (.getfield 63, 3) := allD_get dtX8_lineOf 1 rfl
theorem dX8_lineOf_4 : decode cX8_lineOf 4 = .ok (.aload_n 0, 1) := allD_get dtX8_lineOf 2 rfl
theorem dX8_lineOf_5 : decode cX8_lineOf 5 = .ok (.getfield 60, 3) := allD_get dtX8_lineOf 3 rfl
theorem dX8_lineOf_8 : decode cX8_lineOf 8 = .ok (.iload_n 1, 1) := allD_get dtX8_lineOf 4 rfl
theorem dX8_lineOf_9 : decode cX8_lineOf 9 = .ok (.iaload, 1) := allD_get dtX8_lineOf 5 rfl
theorem dX8_lineOf_10 : decode cX8_lineOf 10 = .ok (.iaload, 1) := allD_get dtX8_lineOf 6 rfl
theorem dX8_lineOf_11 : decode cX8_lineOf 11 = .ok (.ireturn, 1) := allD_get dtX8_lineOf 7 rfl
def tbX8_isBefore : List (Nat × Instr × Nat) := [(0, .aload_n 0, 1), (1, .iload_n 1, 1), (2, .invokevirtual 205, 3), (5, .aload_n 0, 1), (6, .iload_n 2, 1), (7, .invokevirtual 205, 3), (10, .if_icmp .eq 22, 3), (13, .aload_n 0, 1), (14, .iload_n 1, 1), (15, .invokevirtual 205, 3), (18, .aload_n 0, 1), (19, .iload_n 2, 1), (20, .invokevirtual 205, 3), (23, .if_icmp .ge 7, 3), (26, .iconst 1, 1), (27, .goto 4, 3), (30, .iconst 0, 1), (31, .ireturn, 1), (32, .aload_n 0, 1), (33, .iload_n 1, 1), (34, .iconst 0, 1), (35, .iconst 0, 1), (36, .invokevirtual 195, 3), (39, .istore_n 3, 1), (40, .aload_n 0, 1), (41, .iload_n 2, 1), (42, .iconst 0, 1), (43, .iconst 0, 1), (44, .invokevirtual 195, 3), (47, .istore 4, 2), (49, .iload_n 3, 1), (50, .iload 4, 2), (52, .if_icmp .eq 17, 3), (55, .iload_n 3, 1), (56, .iload 4, 2), (58, .if_icmp .ge 7, 3), (61, .iconst 1, 1), (62, .goto 17, 3), (65, .iconst 0, 1), (66, .goto 13, 3), (69, .iload_n 1, 1), (70, .iload_n 2, 1), (71, .if_icmp .ge 7, 3), (74, .iconst 1, 1), (75, .goto 4, 3), (78, .iconst 0, 1), (79, .ireturn, 1)]
set_option maxRecDepth 100000 in
theorem dtX8_isBefore : allD cX8_isBefore tbX8_isBefore = true := by decide +kernel
theorem dX8_isBefore_0 : decode cX8_isBefore 0 = .ok (.aload_n 0, 1) := allD_get dtX8_isBefore 0 rfl
theorem dX8_isBefore_1 : decode cX8_isBefore 1 = .ok (.iload_n 1, 1) := allD_get dtX8_isBefore 1 rfl
theorem dX8_isBefore_2 : decode cX8_isBefore 2 = .ok (.invokevirtual 205, 3) := allD_get dtX8_isBefore 2 rfl
theorem dX8_isBefore_5 : decode cX8_isBefore 5 = .ok (.aload_n 0, 1) := allD_get dtX8_isBefore 3 rfl
theorem dX8_isBefore_6 : decode cX8_isBefore 6 = .ok (.iload_n 2, 1) := allD_get dtX8_isBefore 4 rfl
theorem dX8_isBefore_7 : decode cX8_isBefore 7 = .ok (.invokevirtual 205, 3) := allD_get dtX8_isBefore 5 rfl
theorem dX8_isBefore_10 : decode cX8_isBefore 10 = .ok (.if_icmp .eq 22, 3) := allD_get dtX8_isBefore 6 rfl
theorem dX8_isBefore_13 : decode cX8_isBefore 13 = .ok (.aload_n 0, 1) := allD_get dtX8_isBefore 7 rfl
theorem dX8_isBefore_14 : decode cX8_isBefore 14 = .ok (.iload_n 1, 1) := allD_get dtX8_isBefore 8 rfl
theorem dX8_isBefore_15 : decode cX8_isBefore 15 = .ok (.invokevirtual 205, 3) := allD_get dtX8_isBefore 9 rfl
theorem dX8_isBefore_18 : decode cX8_isBefore 18 = .ok (.aload_n 0, 1) := allD_get dtX8_isBefore 10 rfl
theorem dX8_isBefore_19 : decode cX8_isBefore 19 = .ok (.iload_n 2, 1) := allD_get dtX8_isBefore 11 rfl
theorem dX8_isBefore_20 : decode cX8_isBefore 20 = .ok (.invokevirtual 205, 3) := allD_get dtX8_isBefore 12 rfl
theorem dX8_isBefore_23 : decode cX8_isBefore 23 = .ok (.if_icmp .ge 7, 3) := allD_get dtX8_isBefore 13 rfl
theorem dX8_isBefore_26 : decode cX8_isBefore 26 = .ok (.iconst 1, 1) := allD_get dtX8_isBefore 14 rfl
theorem dX8_isBefore_27 : decode cX8_isBefore 27 = .ok (.goto 4, 3) := allD_get dtX8_isBefore 15 rfl
theorem dX8_isBefore_30 : decode cX8_isBefore 30 = .ok (.iconst 0, 1) := allD_get dtX8_isBefore 16 rfl
theorem dX8_isBefore_31 : decode cX8_isBefore 31 = .ok (.ireturn, 1) := allD_get dtX8_isBefore 17 rfl
theorem dX8_isBefore_32 : decode cX8_isBefore 32 = .ok (.aload_n 0, 1) := allD_get dtX8_isBefore 18 rfl
theorem dX8_isBefore_33 : decode cX8_isBefore 33 = .ok (.iload_n 1, 1) := allD_get dtX8_isBefore 19 rfl
theorem dX8_isBefore_34 : decode cX8_isBefore 34 = .ok (.iconst 0, 1) := allD_get dtX8_isBefore 20 rfl
theorem dX8_isBefore_35 : decode cX8_isBefore 35 = .ok (.iconst 0, 1) := allD_get dtX8_isBefore 21 rfl
theorem dX8_isBefore_36 : decode cX8_isBefore 36 = .ok (.invokevirtual 195, 3) := allD_get dtX8_isBefore 22 rfl
theorem dX8_isBefore_39 : decode cX8_isBefore 39 = .ok (.istore_n 3, 1) := allD_get dtX8_isBefore 23 rfl
theorem dX8_isBefore_40 : decode cX8_isBefore 40 = .ok (.aload_n 0, 1) := allD_get dtX8_isBefore 24 rfl
theorem dX8_isBefore_41 : decode cX8_isBefore 41 = .ok (.iload_n 2, 1) := allD_get dtX8_isBefore 25 rfl
theorem dX8_isBefore_42 : decode cX8_isBefore 42 = .ok (.iconst 0, 1) := allD_get dtX8_isBefore 26 rfl
theorem dX8_isBefore_43 : decode cX8_isBefore 43 = .ok (.iconst 0, 1) := allD_get dtX8_isBefore 27 rfl
theorem dX8_isBefore_44 : decode cX8_isBefore 44 = .ok (.invokevirtual 195, 3) := allD_get dtX8_isBefore 28 rfl
theorem dX8_isBefore_47 : decode cX8_isBefore 47 = .ok (.istore 4, 2) := allD_get dtX8_isBefore 29 rfl
theorem dX8_isBefore_49 : decode cX8_isBefore 49 = .ok (.iload_n 3, 1) := allD_get dtX8_isBefore 30 rfl
theorem dX8_isBefore_50 : decode cX8_isBefore 50 = .ok (.iload 4, 2) := allD_get dtX8_isBefore 31 rfl
theorem dX8_isBefore_52 : decode cX8_isBefore 52 = .ok (.if_icmp .eq 17, 3) := allD_get dtX8_isBefore 32 rfl
theorem dX8_isBefore_55 : decode cX8_isBefore 55 = .ok (.iload_n 3, 1) := allD_get dtX8_isBefore 33 rfl
theorem dX8_isBefore_56 : decode cX8_isBefore 56 = .ok (.iload 4, 2) := allD_get dtX8_isBefore 34 rfl
theorem dX8_isBefore_58 : decode cX8_isBefore 58 = .ok (.if_icmp .ge 7, 3) := allD_get dtX8_isBefore 35 rfl
theorem dX8_isBefore_61 : decode cX8_isBefore 61 = .ok (.iconst 1, 1) := allD_get dtX8_isBefore 36 rfl
theorem dX8_isBefore_62 : decode cX8_isBefore 62 = .ok (.goto 17, 3) := allD_get dtX8_isBefore 37 rfl
theorem dX8_isBefore_65 : decode cX8_isBefore 65 = .ok (.iconst 0, 1) := allD_get dtX8_isBefore 38 rfl
theorem dX8_isBefore_66 : decode cX8_isBefore 66 = .ok (.goto 13, 3) := allD_get dtX8_isBefore 39 rfl
theorem dX8_isBefore_69 : decode cX8_isBefore 69 = .ok (.iload_n 1, 1) := allD_get dtX8_isBefore 40 rfl
theorem dX8_isBefore_70 : decode cX8_isBefore 70 = .ok (.iload_n 2, 1) := allD_get dtX8_isBefore 41 rfl
theorem dX8_isBefore_71 : decode cX8_isBefore 71 = .ok (.if_icmp .ge 7, 3) := allD_get dtX8_isBefore 42 rfl
theorem dX8_isBefore_74 : decode cX8_isBefore 74 = .ok (.iconst 1, 1) := allD_get dtX8_isBefore 43 rfl
theorem dX8_isBefore_75 : decode cX8_isBefore 75 = .ok (.goto 4, 3) := allD_get dtX8_isBefore 44 rfl
theorem dX8_isBefore_78 : decode cX8_isBefore 78 = .ok (.iconst 0, 1) := allD_get dtX8_isBefore 45 rfl
theorem dX8_isBefore_79 : decode cX8_isBefore 79 = .ok (.ireturn, 1) := allD_get dtX8_isBefore 46 rfl
def tbX8_placeOf : List (Nat × Instr × Nat) := [(0, .iconst 0, 1), (1, .istore_n 2, 1), (2, .iconst 0, 1), (3, .istore_n 3, 1), (4, .iload_n 3, 1), (5, .aload_n 0, 1), (6, .invokevirtual 152, 3), (9, .if_icmp .ge 26, 3), (12, .iload_n 2, 1), (13, .aload_n 0, 1), (14, .iload_n 3, 1), (15, .iload_n 1, 1), (16, .invokevirtual 208, 3), (19, .ifCond .eq 7, 3), (22, .iconst 1, 1), (23, .goto 4, 3), (26, .iconst 0, 1), (27, .iadd, 1), (28, .istore_n 2, 1), (29, .iinc 3 1, 3), (32, .goto (-28), 3), (35, .iload_n 2, 1), (36, .ireturn, 1)]
set_option maxRecDepth 100000 in
theorem dtX8_placeOf : allD cX8_placeOf tbX8_placeOf = true := by decide +kernel
theorem dX8_placeOf_0 : decode cX8_placeOf 0 = .ok (.iconst 0, 1) := allD_get dtX8_placeOf 0 rfl
theorem dX8_placeOf_1 : decode cX8_placeOf 1 = .ok (.istore_n 2, 1) := allD_get dtX8_placeOf 1 rfl
theorem dX8_placeOf_2 : decode cX8_placeOf 2 = .ok (.iconst 0, 1) := allD_get dtX8_placeOf 2 rfl
theorem dX8_placeOf_3 : decode cX8_placeOf 3 = .ok (.istore_n 3, 1) := allD_get dtX8_placeOf 3 rfl
theorem dX8_placeOf_4 : decode cX8_placeOf 4 = .ok (.iload_n 3, 1) := allD_get dtX8_placeOf 4 rfl
theorem dX8_placeOf_5 : decode cX8_placeOf 5 = .ok (.aload_n 0, 1) := allD_get dtX8_placeOf 5 rfl
theorem dX8_placeOf_6 : decode cX8_placeOf 6 = .ok (.invokevirtual 152, 3) := allD_get dtX8_placeOf 6 rfl
theorem dX8_placeOf_9 : decode cX8_placeOf 9 = .ok (.if_icmp .ge 26, 3) := allD_get dtX8_placeOf 7 rfl
theorem dX8_placeOf_12 : decode cX8_placeOf 12 = .ok (.iload_n 2, 1) := allD_get dtX8_placeOf 8 rfl
theorem dX8_placeOf_13 : decode cX8_placeOf 13 = .ok (.aload_n 0, 1) := allD_get dtX8_placeOf 9 rfl
theorem dX8_placeOf_14 : decode cX8_placeOf 14 = .ok (.iload_n 3, 1) := allD_get dtX8_placeOf 10 rfl
theorem dX8_placeOf_15 : decode cX8_placeOf 15 = .ok (.iload_n 1, 1) := allD_get dtX8_placeOf 11 rfl
theorem dX8_placeOf_16 : decode cX8_placeOf 16 = .ok (.invokevirtual 208, 3) := allD_get dtX8_placeOf 12 rfl
theorem dX8_placeOf_19 : decode cX8_placeOf 19 = .ok (.ifCond .eq 7, 3) := allD_get dtX8_placeOf 13 rfl
theorem dX8_placeOf_22 : decode cX8_placeOf 22 = .ok (.iconst 1, 1) := allD_get dtX8_placeOf 14 rfl
theorem dX8_placeOf_23 : decode cX8_placeOf 23 = .ok (.goto 4, 3) := allD_get dtX8_placeOf 15 rfl
theorem dX8_placeOf_26 : decode cX8_placeOf 26 = .ok (.iconst 0, 1) := allD_get dtX8_placeOf 16 rfl
theorem dX8_placeOf_27 : decode cX8_placeOf 27 = .ok (.iadd, 1) := allD_get dtX8_placeOf 17 rfl
theorem dX8_placeOf_28 : decode cX8_placeOf 28 = .ok (.istore_n 2, 1) := allD_get dtX8_placeOf 18 rfl
theorem dX8_placeOf_29 : decode cX8_placeOf 29 = .ok (.iinc 3 1, 3) := allD_get dtX8_placeOf 19 rfl
theorem dX8_placeOf_32 : decode cX8_placeOf 32 = .ok (.goto (-28), 3) := allD_get dtX8_placeOf 20 rfl
theorem dX8_placeOf_35 : decode cX8_placeOf 35 = .ok (.iload_n 2, 1) := allD_get dtX8_placeOf 21 rfl
theorem dX8_placeOf_36 : decode cX8_placeOf 36 = .ok (.ireturn, 1) := allD_get dtX8_placeOf 22 rfl
def tbX8_layOut : List (Nat × Instr × Nat) := [(0, .aload_n 0, 1), (1, .invokevirtual 211, 3), (4, .iconst 0, 1), (5, .istore_n 1, 1), (6, .iload_n 1, 1), (7, .aload_n 0, 1), (8, .invokevirtual 152, 3), (11, .if_icmp .ge 20, 3), (14, .aload_n 0, 1), (15, .getfield 69, 3), (18, .aload_n 0, 1), (19, .iload_n 1, 1), (20, .invokevirtual 214, 3), (23, .iload_n 1, 1), (24, .iastore, 1), (25, .iinc 1 1, 3), (28, .goto (-22), 3), (31, .aload_n 0, 1), (32, .iconst 0, 1), (33, .putfield 217, 3), (36, .iconst 0, 1), (37, .istore_n 1, 1), (38, .iconst 0, 1), (39, .istore_n 2, 1), (40, .iload_n 2, 1), (41, .aload_n 0, 1), (42, .invokevirtual 152, 3), (45, .if_icmp .ge 121, 3), (48, .aload_n 0, 1), (49, .getfield 69, 3), (52, .iload_n 2, 1), (53, .iaload, 1), (54, .istore_n 3, 1), (55, .iload_n 2, 1), (56, .ifCond .eq 39, 3), (59, .aload_n 0, 1), (60, .iload_n 3, 1), (61, .invokevirtual 205, 3), (64, .aload_n 0, 1), (65, .aload_n 0, 1), (66, .getfield 69, 3), (69, .iload_n 2, 1), (70, .iconst 1, 1), (71, .isub, 1), (72, .iaload, 1), (73, .invokevirtual 205, 3), (76, .if_icmp .ne 19, 3), (79, .aload_n 0, 1), (80, .iload_n 3, 1), (81, .iconst 0, 1), (82, .iconst 0, 1), (83, .invokevirtual 195, 3), (86, .iload_n 1, 1), (87, .aload_n 0, 1), (88, .getfield 13, 3), (91, .iadd, 1), (92, .if_icmp .le 7, 3), (95, .iconst 1, 1), (96, .goto 4, 3), (99, .iconst 0, 1), (100, .istore 4, 2), (102, .aload_n 0, 1), (103, .dup, 1), (104, .getfield 217, 3), (107, .iload 4, 2), (109, .ifCond .eq 7, 3), (112, .iconst 1, 1), (113, .goto 4, 3), (116, .iconst 0, 1), (117, .iadd, 1), (118, .putfield 217, 3), (121, .aload_n 0, 1), (122, .iload_n 3, 1), (123, .iconst 0, 1), (124, .iconst 1, 1), (125, .invokevirtual 195, 3), (128, .istore 5, 2), (130, .iload 4, 2), (132, .ifCond .ne 9, 3), (135, .iload 5, 2), (137, .iload_n 1, 1), (138, .if_icmp .le 8, 3), (141, .iload 5, 2), (143, .goto 4, 3), (146, .iload_n 1, 1), (147, .istore_n 1, 1), (148, .aload_n 0, 1), (149, .getfield 66, 3), (152, .iload_n 3, 1), (153, .aload_n 0, 1), (154, .getfield 217, 3), (157, .iconst 1, 1), (158, .isub, 1), (159, .iastore, 1), (160, .iinc 2 1, 3), (163, .goto (-123), 3), (166, .return_, 1)]
set_option maxRecDepth 100000 in
theorem dtX8_layOut : allD cX8_layOut tbX8_layOut = true := by decide +kernel
theorem dX8_layOut_0 : decode cX8_layOut 0 = .ok (.aload_n 0, 1) := allD_get dtX8_layOut 0 rfl
theorem dX8_layOut_1 : decode cX8_layOut 1 = .ok (.invokevirtual 211, 3) := allD_get dtX8_layOut 1 rfl
theorem dX8_layOut_4 : decode cX8_layOut 4 = .ok (.iconst 0, 1) := allD_get dtX8_layOut 2 rfl
theorem dX8_layOut_5 : decode cX8_layOut 5 = .ok (.istore_n 1, 1) := allD_get dtX8_layOut 3 rfl
theorem dX8_layOut_6 : decode cX8_layOut 6 = .ok (.iload_n 1, 1) := allD_get dtX8_layOut 4 rfl
theorem dX8_layOut_7 : decode cX8_layOut 7 = .ok (.aload_n 0, 1) := allD_get dtX8_layOut 5 rfl
theorem dX8_layOut_8 : decode cX8_layOut 8 = .ok (.invokevirtual 152, 3) := allD_get dtX8_layOut 6 rfl
theorem dX8_layOut_11 : decode cX8_layOut 11 = .ok (.if_icmp .ge 20, 3) := allD_get dtX8_layOut 7 rfl
theorem dX8_layOut_14 : decode cX8_layOut 14 = .ok (.aload_n 0, 1) := allD_get dtX8_layOut 8 rfl
theorem dX8_layOut_15 : decode cX8_layOut 15 = .ok (.getfield 69, 3) := allD_get dtX8_layOut 9 rfl
theorem dX8_layOut_18 : decode cX8_layOut 18 = .ok (.aload_n 0, 1) := allD_get dtX8_layOut 10 rfl
theorem dX8_layOut_19 : decode cX8_layOut 19 = .ok (.iload_n 1, 1) := allD_get dtX8_layOut 11 rfl
theorem dX8_layOut_20 : decode cX8_layOut 20 = .ok (.invokevirtual 214, 3) := allD_get dtX8_layOut 12 rfl
theorem dX8_layOut_23 : decode cX8_layOut 23 = .ok (.iload_n 1, 1) := allD_get dtX8_layOut 13 rfl
theorem dX8_layOut_24 : decode cX8_layOut 24 = .ok (.iastore, 1) := allD_get dtX8_layOut 14 rfl
theorem dX8_layOut_25 : decode cX8_layOut 25 = .ok (.iinc 1 1, 3) := allD_get dtX8_layOut 15 rfl
theorem dX8_layOut_28 : decode cX8_layOut 28 = .ok (.goto (-22), 3) := allD_get dtX8_layOut 16 rfl
theorem dX8_layOut_31 : decode cX8_layOut 31 = .ok (.aload_n 0, 1) := allD_get dtX8_layOut 17 rfl
theorem dX8_layOut_32 : decode cX8_layOut 32 = .ok (.iconst 0, 1) := allD_get dtX8_layOut 18 rfl
theorem dX8_layOut_33 : decode cX8_layOut 33 = .ok (.putfield 217, 3) := allD_get dtX8_layOut 19 rfl
theorem dX8_layOut_36 : decode cX8_layOut 36 = .ok (.iconst 0, 1) := allD_get dtX8_layOut 20 rfl
theorem dX8_layOut_37 : decode cX8_layOut 37 = .ok (.istore_n 1, 1) := allD_get dtX8_layOut 21 rfl
theorem dX8_layOut_38 : decode cX8_layOut 38 = .ok (.iconst 0, 1) := allD_get dtX8_layOut 22 rfl
theorem dX8_layOut_39 : decode cX8_layOut 39 = .ok (.istore_n 2, 1) := allD_get dtX8_layOut 23 rfl
theorem dX8_layOut_40 : decode cX8_layOut 40 = .ok (.iload_n 2, 1) := allD_get dtX8_layOut 24 rfl
theorem dX8_layOut_41 : decode cX8_layOut 41 = .ok (.aload_n 0, 1) := allD_get dtX8_layOut 25 rfl
theorem dX8_layOut_42 : decode cX8_layOut 42 = .ok (.invokevirtual 152, 3) := allD_get dtX8_layOut 26 rfl
theorem dX8_layOut_45 : decode cX8_layOut 45 = .ok (.if_icmp .ge 121, 3) := allD_get dtX8_layOut 27 rfl
theorem dX8_layOut_48 : decode cX8_layOut 48 = .ok (.aload_n 0, 1) := allD_get dtX8_layOut 28 rfl
theorem dX8_layOut_49 : decode cX8_layOut 49 = .ok (.getfield 69, 3) := allD_get dtX8_layOut 29 rfl
theorem dX8_layOut_52 : decode cX8_layOut 52 = .ok (.iload_n 2, 1) := allD_get dtX8_layOut 30 rfl
theorem dX8_layOut_53 : decode cX8_layOut 53 = .ok (.iaload, 1) := allD_get dtX8_layOut 31 rfl
theorem dX8_layOut_54 : decode cX8_layOut 54 = .ok (.istore_n 3, 1) := allD_get dtX8_layOut 32 rfl
theorem dX8_layOut_55 : decode cX8_layOut 55 = .ok (.iload_n 2, 1) := allD_get dtX8_layOut 33 rfl
theorem dX8_layOut_56 : decode cX8_layOut 56 = .ok (.ifCond .eq 39, 3) := allD_get dtX8_layOut 34 rfl
theorem dX8_layOut_59 : decode cX8_layOut 59 = .ok (.aload_n 0, 1) := allD_get dtX8_layOut 35 rfl
theorem dX8_layOut_60 : decode cX8_layOut 60 = .ok (.iload_n 3, 1) := allD_get dtX8_layOut 36 rfl
theorem dX8_layOut_61 : decode cX8_layOut 61 = .ok (.invokevirtual 205, 3) := allD_get dtX8_layOut 37 rfl
theorem dX8_layOut_64 : decode cX8_layOut 64 = .ok (.aload_n 0, 1) := allD_get dtX8_layOut 38 rfl
theorem dX8_layOut_65 : decode cX8_layOut 65 = .ok (.aload_n 0, 1) := allD_get dtX8_layOut 39 rfl
theorem dX8_layOut_66 : decode cX8_layOut 66 = .ok (.getfield 69, 3) := allD_get dtX8_layOut 40 rfl
theorem dX8_layOut_69 : decode cX8_layOut 69 = .ok (.iload_n 2, 1) := allD_get dtX8_layOut 41 rfl
theorem dX8_layOut_70 : decode cX8_layOut 70 = .ok (.iconst 1, 1) := allD_get dtX8_layOut 42 rfl
theorem dX8_layOut_71 : decode cX8_layOut 71 = .ok (.isub, 1) := allD_get dtX8_layOut 43 rfl
theorem dX8_layOut_72 : decode cX8_layOut 72 = .ok (.iaload, 1) := allD_get dtX8_layOut 44 rfl
theorem dX8_layOut_73 : decode cX8_layOut 73 = .ok (.invokevirtual 205, 3) := allD_get dtX8_layOut 45 rfl
theorem dX8_layOut_76 : decode cX8_layOut 76 = .ok (.if_icmp .ne 19, 3) := allD_get dtX8_layOut 46 rfl
theorem dX8_layOut_79 : decode cX8_layOut 79 = .ok (.aload_n 0, 1) := allD_get dtX8_layOut 47 rfl
theorem dX8_layOut_80 : decode cX8_layOut 80 = .ok (.iload_n 3, 1) := allD_get dtX8_layOut 48 rfl
theorem dX8_layOut_81 : decode cX8_layOut 81 = .ok (.iconst 0, 1) := allD_get dtX8_layOut 49 rfl
theorem dX8_layOut_82 : decode cX8_layOut 82 = .ok (.iconst 0, 1) := allD_get dtX8_layOut 50 rfl
theorem dX8_layOut_83 : decode cX8_layOut 83 = .ok (.invokevirtual 195, 3) := allD_get dtX8_layOut 51 rfl
theorem dX8_layOut_86 : decode cX8_layOut 86 = .ok (.iload_n 1, 1) := allD_get dtX8_layOut 52 rfl
theorem dX8_layOut_87 : decode cX8_layOut 87 = .ok (.aload_n 0, 1) := allD_get dtX8_layOut 53 rfl
theorem dX8_layOut_88 : decode cX8_layOut 88 = .ok (.getfield 13, 3) := allD_get dtX8_layOut 54 rfl
theorem dX8_layOut_91 : decode cX8_layOut 91 = .ok (.iadd, 1) := allD_get dtX8_layOut 55 rfl
theorem dX8_layOut_92 : decode cX8_layOut 92 = .ok (.if_icmp .le 7, 3) := allD_get dtX8_layOut 56 rfl
theorem dX8_layOut_95 : decode cX8_layOut 95 = .ok (.iconst 1, 1) := allD_get dtX8_layOut 57 rfl
theorem dX8_layOut_96 : decode cX8_layOut 96 = .ok (.goto 4, 3) := allD_get dtX8_layOut 58 rfl
theorem dX8_layOut_99 : decode cX8_layOut 99 = .ok (.iconst 0, 1) := allD_get dtX8_layOut 59 rfl
theorem dX8_layOut_100 : decode cX8_layOut 100 = .ok (.istore 4, 2) := allD_get dtX8_layOut 60 rfl
theorem dX8_layOut_102 : decode cX8_layOut 102 = .ok (.aload_n 0, 1) := allD_get dtX8_layOut 61 rfl
theorem dX8_layOut_103 : decode cX8_layOut 103 = .ok (.dup, 1) := allD_get dtX8_layOut 62 rfl
theorem dX8_layOut_104 : decode cX8_layOut 104 = .ok (.getfield 217, 3) := allD_get dtX8_layOut 63 rfl
theorem dX8_layOut_107 : decode cX8_layOut 107 = .ok (.iload 4, 2) := allD_get dtX8_layOut 64 rfl
theorem dX8_layOut_109 : decode cX8_layOut 109 = .ok (.ifCond .eq 7, 3) := allD_get dtX8_layOut 65 rfl
theorem dX8_layOut_112 : decode cX8_layOut 112 = .ok (.iconst 1, 1) := allD_get dtX8_layOut 66 rfl
theorem dX8_layOut_113 : decode cX8_layOut 113 = .ok (.goto 4, 3) := allD_get dtX8_layOut 67 rfl
theorem dX8_layOut_116 : decode cX8_layOut 116 = .ok (.iconst 0, 1) := allD_get dtX8_layOut 68 rfl
theorem dX8_layOut_117 : decode cX8_layOut 117 = .ok (.iadd, 1) := allD_get dtX8_layOut 69 rfl
theorem dX8_layOut_118 : decode cX8_layOut 118 = .ok (.putfield 217, 3) := allD_get dtX8_layOut 70 rfl
theorem dX8_layOut_121 : decode cX8_layOut 121 = .ok (.aload_n 0, 1) := allD_get dtX8_layOut 71 rfl
theorem dX8_layOut_122 : decode cX8_layOut 122 = .ok (.iload_n 3, 1) := allD_get dtX8_layOut 72 rfl
theorem dX8_layOut_123 : decode cX8_layOut 123 = .ok (.iconst 0, 1) := allD_get dtX8_layOut 73 rfl
theorem dX8_layOut_124 : decode cX8_layOut 124 = .ok (.iconst 1, 1) := allD_get dtX8_layOut 74 rfl
theorem dX8_layOut_125 : decode cX8_layOut 125 = .ok (.invokevirtual 195, 3) := allD_get dtX8_layOut 75 rfl
theorem dX8_layOut_128 : decode cX8_layOut 128 = .ok (.istore 5, 2) := allD_get dtX8_layOut 76 rfl
theorem dX8_layOut_130 : decode cX8_layOut 130 = .ok (.iload 4, 2) := allD_get dtX8_layOut 77 rfl
theorem dX8_layOut_132 : decode cX8_layOut 132 = .ok (.ifCond .ne 9, 3) := allD_get dtX8_layOut 78 rfl
theorem dX8_layOut_135 : decode cX8_layOut 135 = .ok (.iload 5, 2) := allD_get dtX8_layOut 79 rfl
theorem dX8_layOut_137 : decode cX8_layOut 137 = .ok (.iload_n 1, 1) := allD_get dtX8_layOut 80 rfl
theorem dX8_layOut_138 : decode cX8_layOut 138 = .ok (.if_icmp .le 8, 3) := allD_get dtX8_layOut 81 rfl
theorem dX8_layOut_141 : decode cX8_layOut 141 = .ok (.iload 5, 2) := allD_get dtX8_layOut 82 rfl
theorem dX8_layOut_143 : decode cX8_layOut 143 = .ok (.goto 4, 3) := allD_get dtX8_layOut 83 rfl
theorem dX8_layOut_146 : decode cX8_layOut 146 = .ok (.iload_n 1, 1) := allD_get dtX8_layOut 84 rfl
theorem dX8_layOut_147 : decode cX8_layOut 147 = .ok (.istore_n 1, 1) := allD_get dtX8_layOut 85 rfl
theorem dX8_layOut_148 : decode cX8_layOut 148 = .ok (.aload_n 0, 1) := allD_get dtX8_layOut 86 rfl
theorem dX8_layOut_149 : decode cX8_layOut 149 = .ok (.getfield 66, 3) := allD_get dtX8_layOut 87 rfl
theorem dX8_layOut_152 : decode cX8_layOut 152 = .ok (.iload_n 3, 1) := allD_get dtX8_layOut 88 rfl
theorem dX8_layOut_153 : decode cX8_layOut 153 = .ok (.aload_n 0, 1) := allD_get dtX8_layOut 89 rfl
theorem dX8_layOut_154 : decode cX8_layOut 154 = .ok (.getfield 217, 3) := allD_get dtX8_layOut 90 rfl
theorem dX8_layOut_157 : decode cX8_layOut 157 = .ok (.iconst 1, 1) := allD_get dtX8_layOut 91 rfl
theorem dX8_layOut_158 : decode cX8_layOut 158 = .ok (.isub, 1) := allD_get dtX8_layOut 92 rfl
theorem dX8_layOut_159 : decode cX8_layOut 159 = .ok (.iastore, 1) := allD_get dtX8_layOut 93 rfl
theorem dX8_layOut_160 : decode cX8_layOut 160 = .ok (.iinc 2 1, 3) := allD_get dtX8_layOut 94 rfl
theorem dX8_layOut_163 : decode cX8_layOut 163 = .ok (.goto (-123), 3) := allD_get dtX8_layOut 95 rfl
theorem dX8_layOut_166 : decode cX8_layOut 166 = .ok (.return_, 1) := allD_get dtX8_layOut 96 rfl
def tbX8_setGap : List (Nat × Instr × Nat) := [(0, .iload_n 1, 1), (1, .iconst 0, 1), (2, .sipush 500, 3), (5, .invokestatic 75, 3), (8, .ifCond .ne 6, 3), (11, .bipush (-2), 2), (13, .ireturn, 1), (14, .aload_n 0, 1), (15, .getfield 13, 3), (18, .istore_n 2, 1), (19, .aload_n 0, 1), (20, .iload_n 1, 1), (21, .putfield 13, 3), (24, .iload_n 2, 1), (25, .ireturn, 1)]
set_option maxRecDepth 100000 in
theorem dtX8_setGap : allD cX8_setGap tbX8_setGap = true := by decide +kernel
theorem dX8_setGap_0 : decode cX8_setGap 0 = .ok (.iload_n 1, 1) := allD_get dtX8_setGap 0 rfl
theorem dX8_setGap_1 : decode cX8_setGap 1 = .ok (.iconst 0, 1) := allD_get dtX8_setGap 1 rfl
theorem dX8_setGap_2 : decode cX8_setGap 2 = .ok (.sipush 500, 3) := allD_get dtX8_setGap 2 rfl
theorem dX8_setGap_5 : decode cX8_setGap 5 = .ok (.invokestatic 75, 3) := allD_get dtX8_setGap 3 rfl
theorem dX8_setGap_8 : decode cX8_setGap 8 = .ok (.ifCond .ne 6, 3) := allD_get dtX8_setGap 4 rfl
theorem dX8_setGap_11 : decode cX8_setGap 11 = .ok (.bipush (-2), 2) := allD_get dtX8_setGap 5 rfl
theorem dX8_setGap_13 : decode cX8_setGap 13 = .ok (.ireturn, 1) := allD_get dtX8_setGap 6 rfl
theorem dX8_setGap_14 : decode cX8_setGap 14 = .ok (.aload_n 0, 1) := allD_get dtX8_setGap 7 rfl
theorem dX8_setGap_15 : decode cX8_setGap 15 = .ok (.getfield 13, 3) := allD_get dtX8_setGap 8 rfl
theorem dX8_setGap_18 : decode cX8_setGap 18 = .ok (.istore_n 2, 1) := allD_get dtX8_setGap 9 rfl
theorem dX8_setGap_19 : decode cX8_setGap 19 = .ok (.aload_n 0, 1) := allD_get dtX8_setGap 10 rfl
theorem dX8_setGap_20 : decode cX8_setGap 20 = .ok (.iload_n 1, 1) := allD_get dtX8_setGap 11 rfl
theorem dX8_setGap_21 : decode cX8_setGap 21 = .ok (.putfield 13, 3) := allD_get dtX8_setGap 12 rfl
theorem dX8_setGap_24 : decode cX8_setGap 24 = .ok (.iload_n 2, 1) := allD_get dtX8_setGap 13 rfl
theorem dX8_setGap_25 : decode cX8_setGap 25 = .ok (.ireturn, 1) := allD_get dtX8_setGap 14 rfl
def tbX8_stroke : List (Nat × Instr × Nat) := [(0, .aload_n 0, 1), (1, .iload_n 1, 1), (2, .invokevirtual 170, 3), (5, .ifCond .eq 5, 3), (8, .iconst (-1), 1), (9, .ireturn, 1), (10, .aload_n 0, 1), (11, .invokevirtual 220, 3), (14, .iload_n 2, 1), (15, .tableswitch 126 0 9 #[53, 63, 69, 77, 85, 93, 101, 107, 113, 120], 53), (68, .aload_n 0, 1), (69, .getfield 7, 3), (72, .bipush 17, 2), (74, .iload_n 1, 1), (75, .iadd, 1), (76, .iaload, 1), (77, .ireturn, 1), (78, .aload_n 0, 1), (79, .iload_n 1, 1), (80, .invokevirtual 135, 3), (83, .ireturn, 1), (84, .aload_n 0, 1), (85, .iload_n 1, 1), (86, .iconst 0, 1), (87, .iconst 0, 1), (88, .invokevirtual 195, 3), (91, .ireturn, 1), (92, .aload_n 0, 1), (93, .iload_n 1, 1), (94, .iconst 0, 1), (95, .iconst 1, 1), (96, .invokevirtual 195, 3), (99, .ireturn, 1), (100, .aload_n 0, 1), (101, .iload_n 1, 1), (102, .iconst 1, 1), (103, .iconst 0, 1), (104, .invokevirtual 195, 3), (107, .ireturn, 1), (108, .aload_n 0, 1), (109, .iload_n 1, 1), (110, .iconst 1, 1), (111, .iconst 1, 1), (112, .invokevirtual 195, 3), (115, .ireturn, 1), (116, .aload_n 0, 1), (117, .iload_n 1, 1), (118, .invokevirtual 223, 3), (121, .ireturn, 1), (122, .aload_n 0, 1), (123, .iload_n 1, 1), (124, .invokevirtual 205, 3), (127, .ireturn, 1), (128, .aload_n 0, 1), (129, .getfield 66, 3), (132, .iload_n 1, 1), (133, .iaload, 1), (134, .ireturn, 1), (135, .aload_n 0, 1), (136, .iload_n 1, 1), (137, .invokevirtual 214, 3), (140, .ireturn, 1), (141, .bipush (-2), 2), (143, .ireturn, 1)]
set_option maxRecDepth 100000 in
theorem dtX8_stroke : allD cX8_stroke tbX8_stroke = true := by decide +kernel
theorem dX8_stroke_0 : decode cX8_stroke 0 = .ok (.aload_n 0, 1) := allD_get dtX8_stroke 0 rfl
theorem dX8_stroke_1 : decode cX8_stroke 1 = .ok (.iload_n 1, 1) := allD_get dtX8_stroke 1 rfl
theorem dX8_stroke_2 : decode cX8_stroke 2 = .ok (.invokevirtual 170, 3) := allD_get dtX8_stroke 2 rfl
theorem dX8_stroke_5 : decode cX8_stroke 5 = .ok (.ifCond .eq 5, 3) := allD_get dtX8_stroke 3 rfl
theorem dX8_stroke_8 : decode cX8_stroke 8 = .ok (.iconst (-1), 1) := allD_get dtX8_stroke 4 rfl
theorem dX8_stroke_9 : decode cX8_stroke 9 = .ok (.ireturn, 1) := allD_get dtX8_stroke 5 rfl
theorem dX8_stroke_10 : decode cX8_stroke 10 = .ok (.aload_n 0, 1) := allD_get dtX8_stroke 6 rfl
theorem dX8_stroke_11 : decode cX8_stroke 11 = .ok (.invokevirtual 220, 3) := allD_get dtX8_stroke 7 rfl
theorem dX8_stroke_14 : decode cX8_stroke 14 = .ok (.iload_n 2, 1) := allD_get dtX8_stroke 8 rfl
theorem dX8_stroke_15 : decode cX8_stroke 15 = .ok (.tableswitch 126 0 9 #[53, 63, 69, 77, 85, 93, 101, 107, 113, 120], 53) := allD_get dtX8_stroke 9 rfl
theorem dX8_stroke_68 : decode cX8_stroke 68 = .ok (.aload_n 0, 1) := allD_get dtX8_stroke 10 rfl
theorem dX8_stroke_69 : decode cX8_stroke 69 = .ok (.getfield 7, 3) := allD_get dtX8_stroke 11 rfl
theorem dX8_stroke_72 : decode cX8_stroke 72 = .ok (.bipush 17, 2) := allD_get dtX8_stroke 12 rfl
theorem dX8_stroke_74 : decode cX8_stroke 74 = .ok (.iload_n 1, 1) := allD_get dtX8_stroke 13 rfl
theorem dX8_stroke_75 : decode cX8_stroke 75 = .ok (.iadd, 1) := allD_get dtX8_stroke 14 rfl
theorem dX8_stroke_76 : decode cX8_stroke 76 = .ok (.iaload, 1) := allD_get dtX8_stroke 15 rfl
theorem dX8_stroke_77 : decode cX8_stroke 77 = .ok (.ireturn, 1) := allD_get dtX8_stroke 16 rfl
theorem dX8_stroke_78 : decode cX8_stroke 78 = .ok (.aload_n 0, 1) := allD_get dtX8_stroke 17 rfl
theorem dX8_stroke_79 : decode cX8_stroke 79 = .ok (.iload_n 1, 1) := allD_get dtX8_stroke 18 rfl
theorem dX8_stroke_80 : decode cX8_stroke 80 = .ok (.invokevirtual 135, 3) := allD_get dtX8_stroke 19 rfl
theorem dX8_stroke_83 : decode cX8_stroke 83 = .ok (.ireturn, 1) := allD_get dtX8_stroke 20 rfl
theorem dX8_stroke_84 : decode cX8_stroke 84 = .ok (.aload_n 0, 1) := allD_get dtX8_stroke 21 rfl
theorem dX8_stroke_85 : decode cX8_stroke 85 = .ok (.iload_n 1, 1) := allD_get dtX8_stroke 22 rfl
theorem dX8_stroke_86 : decode cX8_stroke 86 = .ok (.iconst 0, 1) := allD_get dtX8_stroke 23 rfl
theorem dX8_stroke_87 : decode cX8_stroke 87 = .ok (.iconst 0, 1) := allD_get dtX8_stroke 24 rfl
theorem dX8_stroke_88 : decode cX8_stroke 88 = .ok (.invokevirtual 195, 3) := allD_get dtX8_stroke 25 rfl
theorem dX8_stroke_91 : decode cX8_stroke 91 = .ok (.ireturn, 1) := allD_get dtX8_stroke 26 rfl
theorem dX8_stroke_92 : decode cX8_stroke 92 = .ok (.aload_n 0, 1) := allD_get dtX8_stroke 27 rfl
theorem dX8_stroke_93 : decode cX8_stroke 93 = .ok (.iload_n 1, 1) := allD_get dtX8_stroke 28 rfl
theorem dX8_stroke_94 : decode cX8_stroke 94 = .ok (.iconst 0, 1) := allD_get dtX8_stroke 29 rfl
theorem dX8_stroke_95 : decode cX8_stroke 95 = .ok (.iconst 1, 1) := allD_get dtX8_stroke 30 rfl
theorem dX8_stroke_96 : decode cX8_stroke 96 = .ok (.invokevirtual 195, 3) := allD_get dtX8_stroke 31 rfl
theorem dX8_stroke_99 : decode cX8_stroke 99 = .ok (.ireturn, 1) := allD_get dtX8_stroke 32 rfl
theorem dX8_stroke_100 : decode cX8_stroke 100 = .ok (.aload_n 0, 1) := allD_get dtX8_stroke 33 rfl
theorem dX8_stroke_101 : decode cX8_stroke 101 = .ok (.iload_n 1, 1) := allD_get dtX8_stroke 34 rfl
theorem dX8_stroke_102 : decode cX8_stroke 102 = .ok (.iconst 1, 1) := allD_get dtX8_stroke 35 rfl
theorem dX8_stroke_103 : decode cX8_stroke 103 = .ok (.iconst 0, 1) := allD_get dtX8_stroke 36 rfl
theorem dX8_stroke_104 : decode cX8_stroke 104 = .ok (.invokevirtual 195, 3) := allD_get dtX8_stroke 37 rfl
theorem dX8_stroke_107 : decode cX8_stroke 107 = .ok (.ireturn, 1) := allD_get dtX8_stroke 38 rfl
theorem dX8_stroke_108 : decode cX8_stroke 108 = .ok (.aload_n 0, 1) := allD_get dtX8_stroke 39 rfl
theorem dX8_stroke_109 : decode cX8_stroke 109 = .ok (.iload_n 1, 1) := allD_get dtX8_stroke 40 rfl
theorem dX8_stroke_110 : decode cX8_stroke 110 = .ok (.iconst 1, 1) := allD_get dtX8_stroke 41 rfl
theorem dX8_stroke_111 : decode cX8_stroke 111 = .ok (.iconst 1, 1) := allD_get dtX8_stroke 42 rfl
theorem dX8_stroke_112 : decode cX8_stroke 112 = .ok (.invokevirtual 195, 3) := allD_get dtX8_stroke 43 rfl
theorem dX8_stroke_115 : decode cX8_stroke 115 = .ok (.ireturn, 1) := allD_get dtX8_stroke 44 rfl
theorem dX8_stroke_116 : decode cX8_stroke 116 = .ok (.aload_n 0, 1) := allD_get dtX8_stroke 45 rfl
theorem dX8_stroke_117 : decode cX8_stroke 117 = .ok (.iload_n 1, 1) := allD_get dtX8_stroke 46 rfl
theorem dX8_stroke_118 : decode cX8_stroke 118 = .ok (.invokevirtual 223, 3) := allD_get dtX8_stroke 47 rfl
theorem dX8_stroke_121 : decode cX8_stroke 121 = .ok (.ireturn, 1) := allD_get dtX8_stroke 48 rfl
theorem dX8_stroke_122 : decode cX8_stroke 122 = .ok (.aload_n 0, 1) := allD_get dtX8_stroke 49 rfl
theorem dX8_stroke_123 : decode cX8_stroke 123 = .ok (.iload_n 1, 1) := allD_get dtX8_stroke 50 rfl
theorem dX8_stroke_124 : decode cX8_stroke 124 = .ok (.invokevirtual 205, 3) := allD_get dtX8_stroke 51 rfl
theorem dX8_stroke_127 : decode cX8_stroke 127 = .ok (.ireturn, 1) := allD_get dtX8_stroke 52 rfl
theorem dX8_stroke_128 : decode cX8_stroke 128 = .ok (.aload_n 0, 1) := allD_get dtX8_stroke 53 rfl
theorem dX8_stroke_129 : decode cX8_stroke 129 = .ok (.getfield 66, 3) := allD_get dtX8_stroke 54 rfl
theorem dX8_stroke_132 : decode cX8_stroke 132 = .ok (.iload_n 1, 1) := allD_get dtX8_stroke 55 rfl
theorem dX8_stroke_133 : decode cX8_stroke 133 = .ok (.iaload, 1) := allD_get dtX8_stroke 56 rfl
theorem dX8_stroke_134 : decode cX8_stroke 134 = .ok (.ireturn, 1) := allD_get dtX8_stroke 57 rfl
theorem dX8_stroke_135 : decode cX8_stroke 135 = .ok (.aload_n 0, 1) := allD_get dtX8_stroke 58 rfl
theorem dX8_stroke_136 : decode cX8_stroke 136 = .ok (.iload_n 1, 1) := allD_get dtX8_stroke 59 rfl
theorem dX8_stroke_137 : decode cX8_stroke 137 = .ok (.invokevirtual 214, 3) := allD_get dtX8_stroke 60 rfl
theorem dX8_stroke_140 : decode cX8_stroke 140 = .ok (.ireturn, 1) := allD_get dtX8_stroke 61 rfl
theorem dX8_stroke_141 : decode cX8_stroke 141 = .ok (.bipush (-2), 2) := allD_get dtX8_stroke 62 rfl
theorem dX8_stroke_143 : decode cX8_stroke 143 = .ok (.ireturn, 1) := allD_get dtX8_stroke 63 rfl
def tbX8_point : List (Nat × Instr × Nat) := [(0, .aload_n 0, 1), (1, .iload_n 1, 1), (2, .invokevirtual 170, 3), (5, .ifCond .ne 18, 3), (8, .iload_n 2, 1), (9, .iconst 0, 1), (10, .aload_n 0, 1), (11, .iload_n 1, 1), (12, .invokevirtual 135, 3), (15, .iconst 1, 1), (16, .isub, 1), (17, .invokestatic 75, 3), (20, .ifCond .ne 5, 3), (23, .iconst (-1), 1), (24, .ireturn, 1), (25, .iload_n 3, 1), (26, .ifCond .ne 12, 3), (29, .aload_n 0, 1), (30, .iload_n 1, 1), (31, .iload_n 2, 1), (32, .invokevirtual 139, 3), (35, .goto 19, 3), (38, .iload_n 3, 1), (39, .iconst 1, 1), (40, .if_icmp .ne 12, 3), (43, .aload_n 0, 1), (44, .iload_n 1, 1), (45, .iload_n 2, 1), (46, .invokevirtual 143, 3), (49, .goto 5, 3), (52, .bipush (-2), 2), (54, .ireturn, 1)]
set_option maxRecDepth 100000 in
theorem dtX8_point : allD cX8_point tbX8_point = true := by decide +kernel
theorem dX8_point_0 : decode cX8_point 0 = .ok (.aload_n 0, 1) := allD_get dtX8_point 0 rfl
theorem dX8_point_1 : decode cX8_point 1 = .ok (.iload_n 1, 1) := allD_get dtX8_point 1 rfl
theorem dX8_point_2 : decode cX8_point 2 = .ok (.invokevirtual 170, 3) := allD_get dtX8_point 2 rfl
theorem dX8_point_5 : decode cX8_point 5 = .ok (.ifCond .ne 18, 3) := allD_get dtX8_point 3 rfl
theorem dX8_point_8 : decode cX8_point 8 = .ok (.iload_n 2, 1) := allD_get dtX8_point 4 rfl
theorem dX8_point_9 : decode cX8_point 9 = .ok (.iconst 0, 1) := allD_get dtX8_point 5 rfl
theorem dX8_point_10 : decode cX8_point 10 = .ok (.aload_n 0, 1) := allD_get dtX8_point 6 rfl
theorem dX8_point_11 : decode cX8_point 11 = .ok (.iload_n 1, 1) := allD_get dtX8_point 7 rfl
theorem dX8_point_12 : decode cX8_point 12 = .ok (.invokevirtual 135, 3) := allD_get dtX8_point 8 rfl
theorem dX8_point_15 : decode cX8_point 15 = .ok (.iconst 1, 1) := allD_get dtX8_point 9 rfl
theorem dX8_point_16 : decode cX8_point 16 = .ok (.isub, 1) := allD_get dtX8_point 10 rfl
theorem dX8_point_17 : decode cX8_point 17 = .ok (.invokestatic 75, 3) := allD_get dtX8_point 11 rfl
theorem dX8_point_20 : decode cX8_point 20 = .ok (.ifCond .ne 5, 3) := allD_get dtX8_point 12 rfl
theorem dX8_point_23 : decode cX8_point 23 = .ok (.iconst (-1), 1) := allD_get dtX8_point 13 rfl
theorem dX8_point_24 : decode cX8_point 24 = .ok (.ireturn, 1) := allD_get dtX8_point 14 rfl
theorem dX8_point_25 : decode cX8_point 25 = .ok (.iload_n 3, 1) := allD_get dtX8_point 15 rfl
theorem dX8_point_26 : decode cX8_point 26 = .ok (.ifCond .ne 12, 3) := allD_get dtX8_point 16 rfl
theorem dX8_point_29 : decode cX8_point 29 = .ok (.aload_n 0, 1) := allD_get dtX8_point 17 rfl
theorem dX8_point_30 : decode cX8_point 30 = .ok (.iload_n 1, 1) := allD_get dtX8_point 18 rfl
theorem dX8_point_31 : decode cX8_point 31 = .ok (.iload_n 2, 1) := allD_get dtX8_point 19 rfl
theorem dX8_point_32 : decode cX8_point 32 = .ok (.invokevirtual 139, 3) := allD_get dtX8_point 20 rfl
theorem dX8_point_35 : decode cX8_point 35 = .ok (.goto 19, 3) := allD_get dtX8_point 21 rfl
theorem dX8_point_38 : decode cX8_point 38 = .ok (.iload_n 3, 1) := allD_get dtX8_point 22 rfl
theorem dX8_point_39 : decode cX8_point 39 = .ok (.iconst 1, 1) := allD_get dtX8_point 23 rfl
theorem dX8_point_40 : decode cX8_point 40 = .ok (.if_icmp .ne 12, 3) := allD_get dtX8_point 24 rfl
theorem dX8_point_43 : decode cX8_point 43 = .ok (.aload_n 0, 1) := allD_get dtX8_point 25 rfl
theorem dX8_point_44 : decode cX8_point 44 = .ok (.iload_n 1, 1) := allD_get dtX8_point 26 rfl
theorem dX8_point_45 : decode cX8_point 45 = .ok (.iload_n 2, 1) := allD_get dtX8_point 27 rfl
theorem dX8_point_46 : decode cX8_point 46 = .ok (.invokevirtual 143, 3) := allD_get dtX8_point 28 rfl
theorem dX8_point_49 : decode cX8_point 49 = .ok (.goto 5, 3) := allD_get dtX8_point 29 rfl
theorem dX8_point_52 : decode cX8_point 52 = .ok (.bipush (-2), 2) := allD_get dtX8_point 30 rfl
theorem dX8_point_54 : decode cX8_point 54 = .ok (.ireturn, 1) := allD_get dtX8_point 31 rfl
def tbX8_read : List (Nat × Instr × Nat) := [(0, .iload_n 1, 1), (1, .ifCond .ge 6, 3), (4, .bipush (-2), 2), (6, .ireturn, 1), (7, .aload_n 0, 1), (8, .invokevirtual 220, 3), (11, .iload_n 1, 1), (12, .aload_n 0, 1), (13, .invokevirtual 152, 3), (16, .if_icmp .ge 12, 3), (19, .aload_n 0, 1), (20, .getfield 69, 3), (23, .iload_n 1, 1), (24, .iaload, 1), (25, .goto 5, 3), (28, .bipush (-5), 2), (30, .ireturn, 1)]
set_option maxRecDepth 100000 in
theorem dtX8_read : allD cX8_read tbX8_read = true := by decide +kernel
theorem dX8_read_0 : decode cX8_read 0 = .ok (.iload_n 1, 1) := allD_get dtX8_read 0 rfl
theorem dX8_read_1 : decode cX8_read 1 = .ok (.ifCond .ge 6, 3) := allD_get dtX8_read 1 rfl
theorem dX8_read_4 : decode cX8_read 4 = .ok (.bipush (-2), 2) := allD_get dtX8_read 2 rfl
theorem dX8_read_6 : decode cX8_read 6 = .ok (.ireturn, 1) := allD_get dtX8_read 3 rfl
theorem dX8_read_7 : decode cX8_read 7 = .ok (.aload_n 0, 1) := allD_get dtX8_read 4 rfl
theorem dX8_read_8 : decode cX8_read 8 = .ok (.invokevirtual 220, 3) := allD_get dtX8_read 5 rfl
theorem dX8_read_11 : decode cX8_read 11 = .ok (.iload_n 1, 1) := allD_get dtX8_read 6 rfl
theorem dX8_read_12 : decode cX8_read 12 = .ok (.aload_n 0, 1) := allD_get dtX8_read 7 rfl
theorem dX8_read_13 : decode cX8_read 13 = .ok (.invokevirtual 152, 3) := allD_get dtX8_read 8 rfl
theorem dX8_read_16 : decode cX8_read 16 = .ok (.if_icmp .ge 12, 3) := allD_get dtX8_read 9 rfl
theorem dX8_read_19 : decode cX8_read 19 = .ok (.aload_n 0, 1) := allD_get dtX8_read 10 rfl
theorem dX8_read_20 : decode cX8_read 20 = .ok (.getfield 69, 3) := allD_get dtX8_read 11 rfl
theorem dX8_read_23 : decode cX8_read 23 = .ok (.iload_n 1, 1) := allD_get dtX8_read 12 rfl
theorem dX8_read_24 : decode cX8_read 24 = .ok (.iaload, 1) := allD_get dtX8_read 13 rfl
theorem dX8_read_25 : decode cX8_read 25 = .ok (.goto 5, 3) := allD_get dtX8_read 14 rfl
theorem dX8_read_28 : decode cX8_read 28 = .ok (.bipush (-5), 2) := allD_get dtX8_read 15 rfl
theorem dX8_read_30 : decode cX8_read 30 = .ok (.ireturn, 1) := allD_get dtX8_read 16 rfl
def tbX8_line : List (Nat × Instr × Nat) := [(0, .aload_n 0, 1), (1, .invokevirtual 220, 3), (4, .iload_n 1, 1), (5, .iconst 0, 1), (6, .aload_n 0, 1), (7, .getfield 192, 3), (10, .iconst 1, 1), (11, .isub, 1), (12, .invokestatic 75, 3), (15, .ifCond .ne 5, 3), (18, .iconst (-1), 1), (19, .ireturn, 1), (20, .iload_n 2, 1), (21, .iconst 0, 1), (22, .iconst 4, 1), (23, .invokestatic 75, 3), (26, .ifCond .ne 6, 3), (29, .bipush (-2), 2), (31, .ireturn, 1), (32, .iconst 0, 1), (33, .istore_n 3, 1), (34, .aload_n 0, 1), (35, .getfield 63, 3), (38, .iload_n 3, 1), (39, .iaload, 1), (40, .iload_n 1, 1), (41, .if_icmp .eq 9, 3), (44, .iinc 3 1, 3), (47, .goto (-13), 3), (50, .iconst 0, 1), (51, .istore 4, 2), (53, .bipush (-5), 2), (55, .istore 5, 2), (57, .bipush (-5), 2), (59, .istore 6, 2), (61, .iconst 0, 1), (62, .istore 7, 2), (64, .iload 7, 2), (66, .aload_n 0, 1), (67, .invokevirtual 152, 3), (70, .if_icmp .ge 65, 3), (73, .aload_n 0, 1), (74, .aload_n 0, 1), (75, .getfield 69, 3), (78, .iload 7, 2), (80, .iaload, 1), (81, .invokevirtual 205, 3), (84, .iload_n 1, 1), (85, .if_icmp .ne 44, 3), (88, .iinc 4 1, 3), (91, .iload 5, 2), (93, .ifCond .ge 18, 3), (96, .aload_n 0, 1), (97, .getfield 66, 3), (100, .aload_n 0, 1), (101, .getfield 69, 3), (104, .iload 7, 2), (106, .iaload, 1), (107, .iaload, 1), (108, .goto 5, 3), (111, .iload 5, 2), (113, .istore 5, 2), (115, .aload_n 0, 1), (116, .getfield 66, 3), (119, .aload_n 0, 1), (120, .getfield 69, 3), (123, .iload 7, 2), (125, .iaload, 1), (126, .iaload, 1), (127, .istore 6, 2), (129, .iinc 7 1, 3), (132, .goto (-68), 3), (135, .iload_n 2, 1), (136, .ifCond .ne 12, 3), (139, .aload_n 0, 1), (140, .getfield 54, 3), (143, .iload_n 3, 1), (144, .iaload, 1), (145, .goto 44, 3), (148, .iload_n 2, 1), (149, .iconst 1, 1), (150, .if_icmp .ne 12, 3), (153, .aload_n 0, 1), (154, .getfield 57, 3), (157, .iload_n 3, 1), (158, .iaload, 1), (159, .goto 30, 3), (162, .iload_n 2, 1), (163, .iconst 2, 1), (164, .if_icmp .ne 8, 3), (167, .iload 4, 2), (169, .goto 20, 3), (172, .iload_n 2, 1), (173, .iconst 3, 1), (174, .if_icmp .ne 13, 3), (177, .iload 6, 2), (179, .iload 5, 2), (181, .isub, 1), (182, .iconst 1, 1), (183, .iadd, 1), (184, .goto 5, 3), (187, .iload 5, 2), (189, .ireturn, 1)]
set_option maxRecDepth 100000 in
theorem dtX8_line : allD cX8_line tbX8_line = true := by decide +kernel
theorem dX8_line_0 : decode cX8_line 0 = .ok (.aload_n 0, 1) := allD_get dtX8_line 0 rfl
theorem dX8_line_1 : decode cX8_line 1 = .ok (.invokevirtual 220, 3) := allD_get dtX8_line 1 rfl
theorem dX8_line_4 : decode cX8_line 4 = .ok (.iload_n 1, 1) := allD_get dtX8_line 2 rfl
theorem dX8_line_5 : decode cX8_line 5 = .ok (.iconst 0, 1) := allD_get dtX8_line 3 rfl
theorem dX8_line_6 : decode cX8_line 6 = .ok (.aload_n 0, 1) := allD_get dtX8_line 4 rfl
theorem dX8_line_7 : decode cX8_line 7 = .ok (.getfield 192, 3) := allD_get dtX8_line 5 rfl
theorem dX8_line_10 : decode cX8_line 10 = .ok (.iconst 1, 1) := allD_get dtX8_line 6 rfl
theorem dX8_line_11 : decode cX8_line 11 = .ok (.isub, 1) := allD_get dtX8_line 7 rfl
theorem dX8_line_12 : decode cX8_line 12 = .ok (.invokestatic 75, 3) := allD_get dtX8_line 8 rfl
theorem dX8_line_15 : decode cX8_line 15 = .ok (.ifCond .ne 5, 3) := allD_get dtX8_line 9 rfl
theorem dX8_line_18 : decode cX8_line 18 = .ok (.iconst (-1), 1) := allD_get dtX8_line 10 rfl
theorem dX8_line_19 : decode cX8_line 19 = .ok (.ireturn, 1) := allD_get dtX8_line 11 rfl
theorem dX8_line_20 : decode cX8_line 20 = .ok (.iload_n 2, 1) := allD_get dtX8_line 12 rfl
theorem dX8_line_21 : decode cX8_line 21 = .ok (.iconst 0, 1) := allD_get dtX8_line 13 rfl
theorem dX8_line_22 : decode cX8_line 22 = .ok (.iconst 4, 1) := allD_get dtX8_line 14 rfl
theorem dX8_line_23 : decode cX8_line 23 = .ok (.invokestatic 75, 3) := allD_get dtX8_line 15 rfl
theorem dX8_line_26 : decode cX8_line 26 = .ok (.ifCond .ne 6, 3) := allD_get dtX8_line 16 rfl
theorem dX8_line_29 : decode cX8_line 29 = .ok (.bipush (-2), 2) := allD_get dtX8_line 17 rfl
theorem dX8_line_31 : decode cX8_line 31 = .ok (.ireturn, 1) := allD_get dtX8_line 18 rfl
theorem dX8_line_32 : decode cX8_line 32 = .ok (.iconst 0, 1) := allD_get dtX8_line 19 rfl
theorem dX8_line_33 : decode cX8_line 33 = .ok (.istore_n 3, 1) := allD_get dtX8_line 20 rfl
theorem dX8_line_34 : decode cX8_line 34 = .ok (.aload_n 0, 1) := allD_get dtX8_line 21 rfl
theorem dX8_line_35 : decode cX8_line 35 = .ok (.getfield 63, 3) := allD_get dtX8_line 22 rfl
theorem dX8_line_38 : decode cX8_line 38 = .ok (.iload_n 3, 1) := allD_get dtX8_line 23 rfl
theorem dX8_line_39 : decode cX8_line 39 = .ok (.iaload, 1) := allD_get dtX8_line 24 rfl
theorem dX8_line_40 : decode cX8_line 40 = .ok (.iload_n 1, 1) := allD_get dtX8_line 25 rfl
theorem dX8_line_41 : decode cX8_line 41 = .ok (.if_icmp .eq 9, 3) := allD_get dtX8_line 26 rfl
theorem dX8_line_44 : decode cX8_line 44 = .ok (.iinc 3 1, 3) := allD_get dtX8_line 27 rfl
theorem dX8_line_47 : decode cX8_line 47 = .ok (.goto (-13), 3) := allD_get dtX8_line 28 rfl
theorem dX8_line_50 : decode cX8_line 50 = .ok (.iconst 0, 1) := allD_get dtX8_line 29 rfl
theorem dX8_line_51 : decode cX8_line 51 = .ok (.istore 4, 2) := allD_get dtX8_line 30 rfl
theorem dX8_line_53 : decode cX8_line 53 = .ok (.bipush (-5), 2) := allD_get dtX8_line 31 rfl
theorem dX8_line_55 : decode cX8_line 55 = .ok (.istore 5, 2) := allD_get dtX8_line 32 rfl
theorem dX8_line_57 : decode cX8_line 57 = .ok (.bipush (-5), 2) := allD_get dtX8_line 33 rfl
theorem dX8_line_59 : decode cX8_line 59 = .ok (.istore 6, 2) := allD_get dtX8_line 34 rfl
theorem dX8_line_61 : decode cX8_line 61 = .ok (.iconst 0, 1) := allD_get dtX8_line 35 rfl
theorem dX8_line_62 : decode cX8_line 62 = .ok (.istore 7, 2) := allD_get dtX8_line 36 rfl
theorem dX8_line_64 : decode cX8_line 64 = .ok (.iload 7, 2) := allD_get dtX8_line 37 rfl
theorem dX8_line_66 : decode cX8_line 66 = .ok (.aload_n 0, 1) := allD_get dtX8_line 38 rfl
theorem dX8_line_67 : decode cX8_line 67 = .ok (.invokevirtual 152, 3) := allD_get dtX8_line 39 rfl
theorem dX8_line_70 : decode cX8_line 70 = .ok (.if_icmp .ge 65, 3) := allD_get dtX8_line 40 rfl
theorem dX8_line_73 : decode cX8_line 73 = .ok (.aload_n 0, 1) := allD_get dtX8_line 41 rfl
theorem dX8_line_74 : decode cX8_line 74 = .ok (.aload_n 0, 1) := allD_get dtX8_line 42 rfl
theorem dX8_line_75 : decode cX8_line 75 = .ok (.getfield 69, 3) := allD_get dtX8_line 43 rfl
theorem dX8_line_78 : decode cX8_line 78 = .ok (.iload 7, 2) := allD_get dtX8_line 44 rfl
theorem dX8_line_80 : decode cX8_line 80 = .ok (.iaload, 1) := allD_get dtX8_line 45 rfl
theorem dX8_line_81 : decode cX8_line 81 = .ok (.invokevirtual 205, 3) := allD_get dtX8_line 46 rfl
theorem dX8_line_84 : decode cX8_line 84 = .ok (.iload_n 1, 1) := allD_get dtX8_line 47 rfl
theorem dX8_line_85 : decode cX8_line 85 = .ok (.if_icmp .ne 44, 3) := allD_get dtX8_line 48 rfl
theorem dX8_line_88 : decode cX8_line 88 = .ok (.iinc 4 1, 3) := allD_get dtX8_line 49 rfl
theorem dX8_line_91 : decode cX8_line 91 = .ok (.iload 5, 2) := allD_get dtX8_line 50 rfl
theorem dX8_line_93 : decode cX8_line 93 = .ok (.ifCond .ge 18, 3) := allD_get dtX8_line 51 rfl
theorem dX8_line_96 : decode cX8_line 96 = .ok (.aload_n 0, 1) := allD_get dtX8_line 52 rfl
theorem dX8_line_97 : decode cX8_line 97 = .ok (.getfield 66, 3) := allD_get dtX8_line 53 rfl
theorem dX8_line_100 : decode cX8_line 100 = .ok (.aload_n 0, 1) := allD_get dtX8_line 54 rfl
theorem dX8_line_101 : decode cX8_line 101 = .ok (.getfield 69, 3) := allD_get dtX8_line 55 rfl
theorem dX8_line_104 : decode cX8_line 104 = .ok (.iload 7, 2) := allD_get dtX8_line 56 rfl
theorem dX8_line_106 : decode cX8_line 106 = .ok (.iaload, 1) := allD_get dtX8_line 57 rfl
theorem dX8_line_107 : decode cX8_line 107 = .ok (.iaload, 1) := allD_get dtX8_line 58 rfl
theorem dX8_line_108 : decode cX8_line 108 = .ok (.goto 5, 3) := allD_get dtX8_line 59 rfl
theorem dX8_line_111 : decode cX8_line 111 = .ok (.iload 5, 2) := allD_get dtX8_line 60 rfl
theorem dX8_line_113 : decode cX8_line 113 = .ok (.istore 5, 2) := allD_get dtX8_line 61 rfl
theorem dX8_line_115 : decode cX8_line 115 = .ok (.aload_n 0, 1) := allD_get dtX8_line 62 rfl
theorem dX8_line_116 : decode cX8_line 116 = .ok (.getfield 66, 3) := allD_get dtX8_line 63 rfl
theorem dX8_line_119 : decode cX8_line 119 = .ok (.aload_n 0, 1) := allD_get dtX8_line 64 rfl
theorem dX8_line_120 : decode cX8_line 120 = .ok (.getfield 69, 3) := allD_get dtX8_line 65 rfl
theorem dX8_line_123 : decode cX8_line 123 = .ok (.iload 7, 2) := allD_get dtX8_line 66 rfl
theorem dX8_line_125 : decode cX8_line 125 = .ok (.iaload, 1) := allD_get dtX8_line 67 rfl
theorem dX8_line_126 : decode cX8_line 126 = .ok (.iaload, 1) := allD_get dtX8_line 68 rfl
theorem dX8_line_127 : decode cX8_line 127 = .ok (.istore 6, 2) := allD_get dtX8_line 69 rfl
theorem dX8_line_129 : decode cX8_line 129 = .ok (.iinc 7 1, 3) := allD_get dtX8_line 70 rfl
theorem dX8_line_132 : decode cX8_line 132 = .ok (.goto (-68), 3) := allD_get dtX8_line 71 rfl
theorem dX8_line_135 : decode cX8_line 135 = .ok (.iload_n 2, 1) := allD_get dtX8_line 72 rfl
theorem dX8_line_136 : decode cX8_line 136 = .ok (.ifCond .ne 12, 3) := allD_get dtX8_line 73 rfl
theorem dX8_line_139 : decode cX8_line 139 = .ok (.aload_n 0, 1) := allD_get dtX8_line 74 rfl
theorem dX8_line_140 : decode cX8_line 140 = .ok (.getfield 54, 3) := allD_get dtX8_line 75 rfl
theorem dX8_line_143 : decode cX8_line 143 = .ok (.iload_n 3, 1) := allD_get dtX8_line 76 rfl
theorem dX8_line_144 : decode cX8_line 144 = .ok (.iaload, 1) := allD_get dtX8_line 77 rfl
theorem dX8_line_145 : decode cX8_line 145 = .ok (.goto 44, 3) := allD_get dtX8_line 78 rfl
theorem dX8_line_148 : decode cX8_line 148 = .ok (.iload_n 2, 1) := allD_get dtX8_line 79 rfl
theorem dX8_line_149 : decode cX8_line 149 = .ok (.iconst 1, 1) := allD_get dtX8_line 80 rfl
theorem dX8_line_150 : decode cX8_line 150 = .ok (.if_icmp .ne 12, 3) := allD_get dtX8_line 81 rfl
theorem dX8_line_153 : decode cX8_line 153 = .ok (.aload_n 0, 1) := allD_get dtX8_line 82 rfl
theorem dX8_line_154 : decode cX8_line 154 = .ok (.getfield 57, 3) := allD_get dtX8_line 83 rfl
theorem dX8_line_157 : decode cX8_line 157 = .ok (.iload_n 3, 1) := allD_get dtX8_line 84 rfl
theorem dX8_line_158 : decode cX8_line 158 = .ok (.iaload, 1) := allD_get dtX8_line 85 rfl
theorem dX8_line_159 : decode cX8_line 159 = .ok (.goto 30, 3) := allD_get dtX8_line 86 rfl
theorem dX8_line_162 : decode cX8_line 162 = .ok (.iload_n 2, 1) := allD_get dtX8_line 87 rfl
theorem dX8_line_163 : decode cX8_line 163 = .ok (.iconst 2, 1) := allD_get dtX8_line 88 rfl
theorem dX8_line_164 : decode cX8_line 164 = .ok (.if_icmp .ne 8, 3) := allD_get dtX8_line 89 rfl
theorem dX8_line_167 : decode cX8_line 167 = .ok (.iload 4, 2) := allD_get dtX8_line 90 rfl
theorem dX8_line_169 : decode cX8_line 169 = .ok (.goto 20, 3) := allD_get dtX8_line 91 rfl
theorem dX8_line_172 : decode cX8_line 172 = .ok (.iload_n 2, 1) := allD_get dtX8_line 92 rfl
theorem dX8_line_173 : decode cX8_line 173 = .ok (.iconst 3, 1) := allD_get dtX8_line 93 rfl
theorem dX8_line_174 : decode cX8_line 174 = .ok (.if_icmp .ne 13, 3) := allD_get dtX8_line 94 rfl
theorem dX8_line_177 : decode cX8_line 177 = .ok (.iload 6, 2) := allD_get dtX8_line 95 rfl
theorem dX8_line_179 : decode cX8_line 179 = .ok (.iload 5, 2) := allD_get dtX8_line 96 rfl
theorem dX8_line_181 : decode cX8_line 181 = .ok (.isub, 1) := allD_get dtX8_line 97 rfl
theorem dX8_line_182 : decode cX8_line 182 = .ok (.iconst 1, 1) := allD_get dtX8_line 98 rfl
theorem dX8_line_183 : decode cX8_line 183 = .ok (.iadd, 1) := allD_get dtX8_line 99 rfl
theorem dX8_line_184 : decode cX8_line 184 = .ok (.goto 5, 3) := allD_get dtX8_line 100 rfl
theorem dX8_line_187 : decode cX8_line 187 = .ok (.iload 5, 2) := allD_get dtX8_line 101 rfl
theorem dX8_line_189 : decode cX8_line 189 = .ok (.ireturn, 1) := allD_get dtX8_line 102 rfl
def tbX8_word : List (Nat × Instr × Nat) := [(0, .aload_n 0, 1), (1, .invokevirtual 220, 3), (4, .iload_n 1, 1), (5, .iconst 0, 1), (6, .aload_n 0, 1), (7, .getfield 217, 3), (10, .iconst 1, 1), (11, .isub, 1), (12, .invokestatic 75, 3), (15, .ifCond .ne 5, 3), (18, .iconst (-1), 1), (19, .ireturn, 1), (20, .iconst 0, 1), (21, .istore_n 3, 1), (22, .iconst 0, 1), (23, .istore 4, 2), (25, .aload_n 0, 1), (26, .getfield 66, 3), (29, .aload_n 0, 1), (30, .getfield 69, 3), (33, .iload 4, 2), (35, .iaload, 1), (36, .iaload, 1), (37, .iload_n 1, 1), (38, .if_icmp .eq 9, 3), (41, .iinc 4 1, 3), (44, .goto (-19), 3), (47, .sipush 1000, 3), (50, .istore 5, 2), (52, .iconst 0, 1), (53, .istore 6, 2), (55, .iconst 0, 1), (56, .istore 7, 2), (58, .iload 7, 2), (60, .aload_n 0, 1), (61, .invokevirtual 152, 3), (64, .if_icmp .ge 79, 3), (67, .aload_n 0, 1), (68, .getfield 66, 3), (71, .iload 7, 2), (73, .iaload, 1), (74, .iload_n 1, 1), (75, .if_icmp .ne 62, 3), (78, .iinc 3 1, 3), (81, .aload_n 0, 1), (82, .iload 7, 2), (84, .iconst 0, 1), (85, .iconst 0, 1), (86, .invokevirtual 195, 3), (89, .iload 5, 2), (91, .if_icmp .ge 14, 3), (94, .aload_n 0, 1), (95, .iload 7, 2), (97, .iconst 0, 1), (98, .iconst 0, 1), (99, .invokevirtual 195, 3), (102, .goto 5, 3), (105, .iload 5, 2), (107, .istore 5, 2), (109, .aload_n 0, 1), (110, .iload 7, 2), (112, .iconst 0, 1), (113, .iconst 1, 1), (114, .invokevirtual 195, 3), (117, .iload 6, 2), (119, .if_icmp .le 14, 3), (122, .aload_n 0, 1), (123, .iload 7, 2), (125, .iconst 0, 1), (126, .iconst 1, 1), (127, .invokevirtual 195, 3), (130, .goto 5, 3), (133, .iload 6, 2), (135, .istore 6, 2), (137, .iinc 7 1, 3), (140, .goto (-82), 3), (143, .iload_n 2, 1), (144, .tableswitch 59 0 4 #[36, 48, 50, 53, 56], 36), (180, .aload_n 0, 1), (181, .aload_n 0, 1), (182, .getfield 69, 3), (185, .iload 4, 2), (187, .iaload, 1), (188, .invokevirtual 205, 3), (191, .ireturn, 1), (192, .iload_n 3, 1), (193, .ireturn, 1), (194, .iload 5, 2), (196, .ireturn, 1), (197, .iload 6, 2), (199, .ireturn, 1), (200, .iload 4, 2), (202, .ireturn, 1), (203, .bipush (-2), 2), (205, .ireturn, 1)]
set_option maxRecDepth 100000 in
theorem dtX8_word : allD cX8_word tbX8_word = true := by decide +kernel
theorem dX8_word_0 : decode cX8_word 0 = .ok (.aload_n 0, 1) := allD_get dtX8_word 0 rfl
theorem dX8_word_1 : decode cX8_word 1 = .ok (.invokevirtual 220, 3) := allD_get dtX8_word 1 rfl
theorem dX8_word_4 : decode cX8_word 4 = .ok (.iload_n 1, 1) := allD_get dtX8_word 2 rfl
theorem dX8_word_5 : decode cX8_word 5 = .ok (.iconst 0, 1) := allD_get dtX8_word 3 rfl
theorem dX8_word_6 : decode cX8_word 6 = .ok (.aload_n 0, 1) := allD_get dtX8_word 4 rfl
theorem dX8_word_7 : decode cX8_word 7 = .ok (.getfield 217, 3) := allD_get dtX8_word 5 rfl
theorem dX8_word_10 : decode cX8_word 10 = .ok (.iconst 1, 1) := allD_get dtX8_word 6 rfl
theorem dX8_word_11 : decode cX8_word 11 = .ok (.isub, 1) := allD_get dtX8_word 7 rfl
theorem dX8_word_12 : decode cX8_word 12 = .ok (.invokestatic 75, 3) := allD_get dtX8_word 8 rfl
theorem dX8_word_15 : decode cX8_word 15 = .ok (.ifCond .ne 5, 3) := allD_get dtX8_word 9 rfl
theorem dX8_word_18 : decode cX8_word 18 = .ok (.iconst (-1), 1) := allD_get dtX8_word 10 rfl
theorem dX8_word_19 : decode cX8_word 19 = .ok (.ireturn, 1) := allD_get dtX8_word 11 rfl
theorem dX8_word_20 : decode cX8_word 20 = .ok (.iconst 0, 1) := allD_get dtX8_word 12 rfl
theorem dX8_word_21 : decode cX8_word 21 = .ok (.istore_n 3, 1) := allD_get dtX8_word 13 rfl
theorem dX8_word_22 : decode cX8_word 22 = .ok (.iconst 0, 1) := allD_get dtX8_word 14 rfl
theorem dX8_word_23 : decode cX8_word 23 = .ok (.istore 4, 2) := allD_get dtX8_word 15 rfl
theorem dX8_word_25 : decode cX8_word 25 = .ok (.aload_n 0, 1) := allD_get dtX8_word 16 rfl
theorem dX8_word_26 : decode cX8_word 26 = .ok (.getfield 66, 3) := allD_get dtX8_word 17 rfl
theorem dX8_word_29 : decode cX8_word 29 = .ok (.aload_n 0, 1) := allD_get dtX8_word 18 rfl
theorem dX8_word_30 : decode cX8_word 30 = .ok (.getfield 69, 3) := allD_get dtX8_word 19 rfl
theorem dX8_word_33 : decode cX8_word 33 = .ok (.iload 4, 2) := allD_get dtX8_word 20 rfl
theorem dX8_word_35 : decode cX8_word 35 = .ok (.iaload, 1) := allD_get dtX8_word 21 rfl
theorem dX8_word_36 : decode cX8_word 36 = .ok (.iaload, 1) := allD_get dtX8_word 22 rfl
theorem dX8_word_37 : decode cX8_word 37 = .ok (.iload_n 1, 1) := allD_get dtX8_word 23 rfl
theorem dX8_word_38 : decode cX8_word 38 = .ok (.if_icmp .eq 9, 3) := allD_get dtX8_word 24 rfl
theorem dX8_word_41 : decode cX8_word 41 = .ok (.iinc 4 1, 3) := allD_get dtX8_word 25 rfl
theorem dX8_word_44 : decode cX8_word 44 = .ok (.goto (-19), 3) := allD_get dtX8_word 26 rfl
theorem dX8_word_47 : decode cX8_word 47 = .ok (.sipush 1000, 3) := allD_get dtX8_word 27 rfl
theorem dX8_word_50 : decode cX8_word 50 = .ok (.istore 5, 2) := allD_get dtX8_word 28 rfl
theorem dX8_word_52 : decode cX8_word 52 = .ok (.iconst 0, 1) := allD_get dtX8_word 29 rfl
theorem dX8_word_53 : decode cX8_word 53 = .ok (.istore 6, 2) := allD_get dtX8_word 30 rfl
theorem dX8_word_55 : decode cX8_word 55 = .ok (.iconst 0, 1) := allD_get dtX8_word 31 rfl
theorem dX8_word_56 : decode cX8_word 56 = .ok (.istore 7, 2) := allD_get dtX8_word 32 rfl
theorem dX8_word_58 : decode cX8_word 58 = .ok (.iload 7, 2) := allD_get dtX8_word 33 rfl
theorem dX8_word_60 : decode cX8_word 60 = .ok (.aload_n 0, 1) := allD_get dtX8_word 34 rfl
theorem dX8_word_61 : decode cX8_word 61 = .ok (.invokevirtual 152, 3) := allD_get dtX8_word 35 rfl
theorem dX8_word_64 : decode cX8_word 64 = .ok (.if_icmp .ge 79, 3) := allD_get dtX8_word 36 rfl
theorem dX8_word_67 : decode cX8_word 67 = .ok (.aload_n 0, 1) := allD_get dtX8_word 37 rfl
theorem dX8_word_68 : decode cX8_word 68 = .ok (.getfield 66, 3) := allD_get dtX8_word 38 rfl
theorem dX8_word_71 : decode cX8_word 71 = .ok (.iload 7, 2) := allD_get dtX8_word 39 rfl
theorem dX8_word_73 : decode cX8_word 73 = .ok (.iaload, 1) := allD_get dtX8_word 40 rfl
theorem dX8_word_74 : decode cX8_word 74 = .ok (.iload_n 1, 1) := allD_get dtX8_word 41 rfl
theorem dX8_word_75 : decode cX8_word 75 = .ok (.if_icmp .ne 62, 3) := allD_get dtX8_word 42 rfl
theorem dX8_word_78 : decode cX8_word 78 = .ok (.iinc 3 1, 3) := allD_get dtX8_word 43 rfl
theorem dX8_word_81 : decode cX8_word 81 = .ok (.aload_n 0, 1) := allD_get dtX8_word 44 rfl
theorem dX8_word_82 : decode cX8_word 82 = .ok (.iload 7, 2) := allD_get dtX8_word 45 rfl
theorem dX8_word_84 : decode cX8_word 84 = .ok (.iconst 0, 1) := allD_get dtX8_word 46 rfl
theorem dX8_word_85 : decode cX8_word 85 = .ok (.iconst 0, 1) := allD_get dtX8_word 47 rfl
theorem dX8_word_86 : decode cX8_word 86 = .ok (.invokevirtual 195, 3) := allD_get dtX8_word 48 rfl
theorem dX8_word_89 : decode cX8_word 89 = .ok (.iload 5, 2) := allD_get dtX8_word 49 rfl
theorem dX8_word_91 : decode cX8_word 91 = .ok (.if_icmp .ge 14, 3) := allD_get dtX8_word 50 rfl
theorem dX8_word_94 : decode cX8_word 94 = .ok (.aload_n 0, 1) := allD_get dtX8_word 51 rfl
theorem dX8_word_95 : decode cX8_word 95 = .ok (.iload 7, 2) := allD_get dtX8_word 52 rfl
theorem dX8_word_97 : decode cX8_word 97 = .ok (.iconst 0, 1) := allD_get dtX8_word 53 rfl
theorem dX8_word_98 : decode cX8_word 98 = .ok (.iconst 0, 1) := allD_get dtX8_word 54 rfl
theorem dX8_word_99 : decode cX8_word 99 = .ok (.invokevirtual 195, 3) := allD_get dtX8_word 55 rfl
theorem dX8_word_102 : decode cX8_word 102 = .ok (.goto 5, 3) := allD_get dtX8_word 56 rfl
theorem dX8_word_105 : decode cX8_word 105 = .ok (.iload 5, 2) := allD_get dtX8_word 57 rfl
theorem dX8_word_107 : decode cX8_word 107 = .ok (.istore 5, 2) := allD_get dtX8_word 58 rfl
theorem dX8_word_109 : decode cX8_word 109 = .ok (.aload_n 0, 1) := allD_get dtX8_word 59 rfl
theorem dX8_word_110 : decode cX8_word 110 = .ok (.iload 7, 2) := allD_get dtX8_word 60 rfl
theorem dX8_word_112 : decode cX8_word 112 = .ok (.iconst 0, 1) := allD_get dtX8_word 61 rfl
theorem dX8_word_113 : decode cX8_word 113 = .ok (.iconst 1, 1) := allD_get dtX8_word 62 rfl
theorem dX8_word_114 : decode cX8_word 114 = .ok (.invokevirtual 195, 3) := allD_get dtX8_word 63 rfl
theorem dX8_word_117 : decode cX8_word 117 = .ok (.iload 6, 2) := allD_get dtX8_word 64 rfl
theorem dX8_word_119 : decode cX8_word 119 = .ok (.if_icmp .le 14, 3) := allD_get dtX8_word 65 rfl
theorem dX8_word_122 : decode cX8_word 122 = .ok (.aload_n 0, 1) := allD_get dtX8_word 66 rfl
theorem dX8_word_123 : decode cX8_word 123 = .ok (.iload 7, 2) := allD_get dtX8_word 67 rfl
theorem dX8_word_125 : decode cX8_word 125 = .ok (.iconst 0, 1) := allD_get dtX8_word 68 rfl
theorem dX8_word_126 : decode cX8_word 126 = .ok (.iconst 1, 1) := allD_get dtX8_word 69 rfl
theorem dX8_word_127 : decode cX8_word 127 = .ok (.invokevirtual 195, 3) := allD_get dtX8_word 70 rfl
theorem dX8_word_130 : decode cX8_word 130 = .ok (.goto 5, 3) := allD_get dtX8_word 71 rfl
theorem dX8_word_133 : decode cX8_word 133 = .ok (.iload 6, 2) := allD_get dtX8_word 72 rfl
theorem dX8_word_135 : decode cX8_word 135 = .ok (.istore 6, 2) := allD_get dtX8_word 73 rfl
theorem dX8_word_137 : decode cX8_word 137 = .ok (.iinc 7 1, 3) := allD_get dtX8_word 74 rfl
theorem dX8_word_140 : decode cX8_word 140 = .ok (.goto (-82), 3) := allD_get dtX8_word 75 rfl
theorem dX8_word_143 : decode cX8_word 143 = .ok (.iload_n 2, 1) := allD_get dtX8_word 76 rfl
theorem dX8_word_144 : decode cX8_word 144 = .ok (.tableswitch 59 0 4 #[36, 48, 50, 53, 56], 36) := allD_get dtX8_word 77 rfl
theorem dX8_word_180 : decode cX8_word 180 = .ok (.aload_n 0, 1) := allD_get dtX8_word 78 rfl
theorem dX8_word_181 : decode cX8_word 181 = .ok (.aload_n 0, 1) := allD_get dtX8_word 79 rfl
theorem dX8_word_182 : decode cX8_word 182 = .ok (.getfield 69, 3) := allD_get dtX8_word 80 rfl
theorem dX8_word_185 : decode cX8_word 185 = .ok (.iload 4, 2) := allD_get dtX8_word 81 rfl
theorem dX8_word_187 : decode cX8_word 187 = .ok (.iaload, 1) := allD_get dtX8_word 82 rfl
theorem dX8_word_188 : decode cX8_word 188 = .ok (.invokevirtual 205, 3) := allD_get dtX8_word 83 rfl
theorem dX8_word_191 : decode cX8_word 191 = .ok (.ireturn, 1) := allD_get dtX8_word 84 rfl
theorem dX8_word_192 : decode cX8_word 192 = .ok (.iload_n 3, 1) := allD_get dtX8_word 85 rfl
theorem dX8_word_193 : decode cX8_word 193 = .ok (.ireturn, 1) := allD_get dtX8_word 86 rfl
theorem dX8_word_194 : decode cX8_word 194 = .ok (.iload 5, 2) := allD_get dtX8_word 87 rfl
theorem dX8_word_196 : decode cX8_word 196 = .ok (.ireturn, 1) := allD_get dtX8_word 88 rfl
theorem dX8_word_197 : decode cX8_word 197 = .ok (.iload 6, 2) := allD_get dtX8_word 89 rfl
theorem dX8_word_199 : decode cX8_word 199 = .ok (.ireturn, 1) := allD_get dtX8_word 90 rfl
theorem dX8_word_200 : decode cX8_word 200 = .ok (.iload 4, 2) := allD_get dtX8_word 91 rfl
theorem dX8_word_202 : decode cX8_word 202 = .ok (.ireturn, 1) := allD_get dtX8_word 92 rfl
theorem dX8_word_203 : decode cX8_word 203 = .ok (.bipush (-2), 2) := allD_get dtX8_word 93 rfl
theorem dX8_word_205 : decode cX8_word 205 = .ok (.ireturn, 1) := allD_get dtX8_word 94 rfl
def tbX8_nearest : List (Nat × Instr × Nat) := [(0, .iload_n 1, 1), (1, .invokestatic 99, 3), (4, .ifCond .eq 10, 3), (7, .iload_n 2, 1), (8, .invokestatic 99, 3), (11, .ifCond .ne 6, 3), (14, .bipush (-2), 2), (16, .ireturn, 1), (17, .bipush (-5), 2), (19, .istore_n 3, 1), (20, .iconst 0, 1), (21, .istore 4, 2), (23, .iconst 0, 1), (24, .istore 5, 2), (26, .iload 5, 2), (28, .aload_n 0, 1), (29, .invokevirtual 152, 3), (32, .if_icmp .ge 72, 3), (35, .iconst 0, 1), (36, .istore 6, 2), (38, .iload 6, 2), (40, .aload_n 0, 1), (41, .iload 5, 2), (43, .invokevirtual 135, 3), (46, .if_icmp .ge 52, 3), (49, .aload_n 0, 1), (50, .iload 5, 2), (52, .iload 6, 2), (54, .invokevirtual 139, 3), (57, .iload_n 1, 1), (58, .isub, 1), (59, .aload_n 0, 1), (60, .iload 5, 2), (62, .iload 6, 2), (64, .invokevirtual 143, 3), (67, .iload_n 2, 1), (68, .isub, 1), (69, .invokestatic 164, 3), (72, .istore 7, 2), (74, .iload_n 3, 1), (75, .ifCond .lt 10, 3), (78, .iload 7, 2), (80, .iload 4, 2), (82, .if_icmp .ge 10, 3), (85, .iload 5, 2), (87, .istore_n 3, 1), (88, .iload 7, 2), (90, .istore 4, 2), (92, .iinc 6 1, 3), (95, .goto (-57), 3), (98, .iinc 5 1, 3), (101, .goto (-75), 3), (104, .iload_n 3, 1), (105, .ireturn, 1)]
set_option maxRecDepth 100000 in
theorem dtX8_nearest : allD cX8_nearest tbX8_nearest = true := by decide +kernel
theorem dX8_nearest_0 : decode cX8_nearest 0 = .ok (.iload_n 1, 1) := allD_get dtX8_nearest 0 rfl
theorem dX8_nearest_1 : decode cX8_nearest 1 = .ok (.invokestatic 99, 3) := allD_get dtX8_nearest 1 rfl
theorem dX8_nearest_4 : decode cX8_nearest 4 = .ok (.ifCond .eq 10, 3) := allD_get dtX8_nearest 2 rfl
theorem dX8_nearest_7 : decode cX8_nearest 7 = .ok (.iload_n 2, 1) := allD_get dtX8_nearest 3 rfl
theorem dX8_nearest_8 : decode cX8_nearest 8 = .ok (.invokestatic 99, 3) := allD_get dtX8_nearest 4 rfl
theorem dX8_nearest_11 : decode cX8_nearest 11 = .ok (.ifCond .ne 6, 3) := allD_get dtX8_nearest 5 rfl
theorem dX8_nearest_14 : decode cX8_nearest 14 = .ok (.bipush (-2), 2) := allD_get dtX8_nearest 6 rfl
theorem dX8_nearest_16 : decode cX8_nearest 16 = .ok (.ireturn, 1) := allD_get dtX8_nearest 7 rfl
theorem dX8_nearest_17 : decode cX8_nearest 17 = .ok (.bipush (-5), 2) := allD_get dtX8_nearest 8 rfl
theorem dX8_nearest_19 : decode cX8_nearest 19 = .ok (.istore_n 3, 1) := allD_get dtX8_nearest 9 rfl
theorem dX8_nearest_20 : decode cX8_nearest 20 = .ok (.iconst 0, 1) := allD_get dtX8_nearest 10 rfl
theorem dX8_nearest_21 : decode cX8_nearest 21 = .ok (.istore 4, 2) := allD_get dtX8_nearest 11 rfl
theorem dX8_nearest_23 : decode cX8_nearest 23 = .ok (.iconst 0, 1) := allD_get dtX8_nearest 12 rfl
theorem dX8_nearest_24 : decode cX8_nearest 24 = .ok (.istore 5, 2) := allD_get dtX8_nearest 13 rfl
theorem dX8_nearest_26 : decode cX8_nearest 26 = .ok (.iload 5, 2) := allD_get dtX8_nearest 14 rfl
theorem dX8_nearest_28 : decode cX8_nearest 28 = .ok (.aload_n 0, 1) := allD_get dtX8_nearest 15 rfl
theorem dX8_nearest_29 : decode cX8_nearest 29 = .ok (.invokevirtual 152, 3) := allD_get dtX8_nearest 16 rfl
theorem dX8_nearest_32 : decode cX8_nearest 32 = .ok (.if_icmp .ge 72, 3) := allD_get dtX8_nearest 17 rfl
theorem dX8_nearest_35 : decode cX8_nearest 35 = .ok (.iconst 0, 1) := allD_get dtX8_nearest 18 rfl
theorem dX8_nearest_36 : decode cX8_nearest 36 = .ok (.istore 6, 2) := allD_get dtX8_nearest 19 rfl
theorem dX8_nearest_38 : decode cX8_nearest 38 = .ok (.iload 6, 2) := allD_get dtX8_nearest 20 rfl
theorem dX8_nearest_40 : decode cX8_nearest 40 = .ok (.aload_n 0, 1) := allD_get dtX8_nearest 21 rfl
theorem dX8_nearest_41 : decode cX8_nearest 41 = .ok (.iload 5, 2) := allD_get dtX8_nearest 22 rfl
theorem dX8_nearest_43 : decode cX8_nearest 43 = .ok (.invokevirtual 135, 3) := allD_get dtX8_nearest 23 rfl
theorem dX8_nearest_46 : decode cX8_nearest 46 = .ok (.if_icmp .ge 52, 3) := allD_get dtX8_nearest 24 rfl
theorem dX8_nearest_49 : decode cX8_nearest 49 = .ok (.aload_n 0, 1) := allD_get dtX8_nearest 25 rfl
theorem dX8_nearest_50 : decode cX8_nearest 50 = .ok (.iload 5, 2) := allD_get dtX8_nearest 26 rfl
theorem dX8_nearest_52 : decode cX8_nearest 52 = .ok (.iload 6, 2) := allD_get dtX8_nearest 27 rfl
theorem dX8_nearest_54 : decode cX8_nearest 54 = .ok (.invokevirtual 139, 3) := allD_get dtX8_nearest 28 rfl
theorem dX8_nearest_57 : decode cX8_nearest 57 = .ok (.iload_n 1, 1) := allD_get dtX8_nearest 29 rfl
theorem dX8_nearest_58 : decode cX8_nearest 58 = .ok (.isub, 1) := allD_get dtX8_nearest 30 rfl
theorem dX8_nearest_59 : decode cX8_nearest 59 = .ok (.aload_n 0, 1) := allD_get dtX8_nearest 31 rfl
theorem dX8_nearest_60 : decode cX8_nearest 60 = .ok (.iload 5, 2) := allD_get dtX8_nearest 32 rfl
theorem dX8_nearest_62 : decode cX8_nearest 62 = .ok (.iload 6, 2) := allD_get dtX8_nearest 33 rfl
theorem dX8_nearest_64 : decode cX8_nearest 64 = .ok (.invokevirtual 143, 3) := allD_get dtX8_nearest 34 rfl
theorem dX8_nearest_67 : decode cX8_nearest 67 = .ok (.iload_n 2, 1) := allD_get dtX8_nearest 35 rfl
theorem dX8_nearest_68 : decode cX8_nearest 68 = .ok (.isub, 1) := allD_get dtX8_nearest 36 rfl
theorem dX8_nearest_69 : decode cX8_nearest 69 = .ok (.invokestatic 164, 3) := allD_get dtX8_nearest 37 rfl
theorem dX8_nearest_72 : decode cX8_nearest 72 = .ok (.istore 7, 2) := allD_get dtX8_nearest 38 rfl
theorem dX8_nearest_74 : decode cX8_nearest 74 = .ok (.iload_n 3, 1) := allD_get dtX8_nearest 39 rfl
theorem dX8_nearest_75 : decode cX8_nearest 75 = .ok (.ifCond .lt 10, 3) := allD_get dtX8_nearest 40 rfl
theorem dX8_nearest_78 : decode cX8_nearest 78 = .ok (.iload 7, 2) := allD_get dtX8_nearest 41 rfl
theorem dX8_nearest_80 : decode cX8_nearest 80 = .ok (.iload 4, 2) := allD_get dtX8_nearest 42 rfl
theorem dX8_nearest_82 : decode cX8_nearest 82 = .ok (.if_icmp .ge 10, 3) := allD_get dtX8_nearest 43 rfl
theorem dX8_nearest_85 : decode cX8_nearest 85 = .ok (.iload 5, 2) := allD_get dtX8_nearest 44 rfl
theorem dX8_nearest_87 : decode cX8_nearest 87 = .ok (.istore_n 3, 1) := allD_get dtX8_nearest 45 rfl
theorem dX8_nearest_88 : decode cX8_nearest 88 = .ok (.iload 7, 2) := allD_get dtX8_nearest 46 rfl
theorem dX8_nearest_90 : decode cX8_nearest 90 = .ok (.istore 4, 2) := allD_get dtX8_nearest 47 rfl
theorem dX8_nearest_92 : decode cX8_nearest 92 = .ok (.iinc 6 1, 3) := allD_get dtX8_nearest 48 rfl
theorem dX8_nearest_95 : decode cX8_nearest 95 = .ok (.goto (-57), 3) := allD_get dtX8_nearest 49 rfl
theorem dX8_nearest_98 : decode cX8_nearest 98 = .ok (.iinc 5 1, 3) := allD_get dtX8_nearest 50 rfl
theorem dX8_nearest_101 : decode cX8_nearest 101 = .ok (.goto (-75), 3) := allD_get dtX8_nearest 51 rfl
theorem dX8_nearest_104 : decode cX8_nearest 104 = .ok (.iload_n 3, 1) := allD_get dtX8_nearest 52 rfl
theorem dX8_nearest_105 : decode cX8_nearest 105 = .ok (.ireturn, 1) := allD_get dtX8_nearest 53 rfl
def tbX8_ink : List (Nat × Instr × Nat) := [(0, .iconst 0, 1), (1, .istore_n 2, 1), (2, .iload_n 2, 1), (3, .sipush 10201, 3), (6, .if_icmp .ge 16, 3), (9, .aload_n 0, 1), (10, .getfield 72, 3), (13, .iload_n 2, 1), (14, .iconst 0, 1), (15, .iastore, 1), (16, .iinc 2 1, 3), (19, .goto (-17), 3), (22, .iconst 0, 1), (23, .istore_n 2, 1), (24, .iload_n 2, 1), (25, .aload_n 0, 1), (26, .invokevirtual 152, 3), (29, .if_icmp .ge 74, 3), (32, .iconst 0, 1), (33, .istore_n 3, 1), (34, .iload_n 3, 1), (35, .aload_n 0, 1), (36, .iload_n 2, 1), (37, .invokevirtual 135, 3), (40, .if_icmp .ge 57, 3), (43, .iload_n 1, 1), (44, .ifCond .lt 16, 3), (47, .aload_n 0, 1), (48, .getfield 7, 3), (51, .bipush 17, 2), (53, .iload_n 2, 1), (54, .iadd, 1), (55, .iaload, 1), (56, .iload_n 1, 1), (57, .if_icmp .ne 40, 3), (60, .aload_n 0, 1), (61, .getfield 72, 3), (64, .bipush 101, 2), (66, .aload_n 0, 1), (67, .iload_n 2, 1), (68, .iload_n 3, 1), (69, .invokevirtual 143, 3), (72, .bipush 10, 2), (74, .idiv, 1), (75, .imul, 1), (76, .aload_n 0, 1), (77, .iload_n 2, 1), (78, .iload_n 3, 1), (79, .invokevirtual 139, 3), (82, .bipush 10, 2), (84, .idiv, 1), (85, .iadd, 1), (86, .dup2, 1), (87, .iaload, 1), (88, .iconst 1, 1), (89, .iadd, 1), (90, .iastore, 1), (91, .iinc 3 1, 3), (94, .goto (-60), 3), (97, .iinc 2 1, 3), (100, .goto (-76), 3), (103, .return_, 1)]
set_option maxRecDepth 100000 in
theorem dtX8_ink : allD cX8_ink tbX8_ink = true := by decide +kernel
theorem dX8_ink_0 : decode cX8_ink 0 = .ok (.iconst 0, 1) := allD_get dtX8_ink 0 rfl
theorem dX8_ink_1 : decode cX8_ink 1 = .ok (.istore_n 2, 1) := allD_get dtX8_ink 1 rfl
theorem dX8_ink_2 : decode cX8_ink 2 = .ok (.iload_n 2, 1) := allD_get dtX8_ink 2 rfl
theorem dX8_ink_3 : decode cX8_ink 3 = .ok (.sipush 10201, 3) := allD_get dtX8_ink 3 rfl
theorem dX8_ink_6 : decode cX8_ink 6 = .ok (.if_icmp .ge 16, 3) := allD_get dtX8_ink 4 rfl
theorem dX8_ink_9 : decode cX8_ink 9 = .ok (.aload_n 0, 1) := allD_get dtX8_ink 5 rfl
theorem dX8_ink_10 : decode cX8_ink 10 = .ok (.getfield 72, 3) := allD_get dtX8_ink 6 rfl
theorem dX8_ink_13 : decode cX8_ink 13 = .ok (.iload_n 2, 1) := allD_get dtX8_ink 7 rfl
theorem dX8_ink_14 : decode cX8_ink 14 = .ok (.iconst 0, 1) := allD_get dtX8_ink 8 rfl
theorem dX8_ink_15 : decode cX8_ink 15 = .ok (.iastore, 1) := allD_get dtX8_ink 9 rfl
theorem dX8_ink_16 : decode cX8_ink 16 = .ok (.iinc 2 1, 3) := allD_get dtX8_ink 10 rfl
theorem dX8_ink_19 : decode cX8_ink 19 = .ok (.goto (-17), 3) := allD_get dtX8_ink 11 rfl
theorem dX8_ink_22 : decode cX8_ink 22 = .ok (.iconst 0, 1) := allD_get dtX8_ink 12 rfl
theorem dX8_ink_23 : decode cX8_ink 23 = .ok (.istore_n 2, 1) := allD_get dtX8_ink 13 rfl
theorem dX8_ink_24 : decode cX8_ink 24 = .ok (.iload_n 2, 1) := allD_get dtX8_ink 14 rfl
theorem dX8_ink_25 : decode cX8_ink 25 = .ok (.aload_n 0, 1) := allD_get dtX8_ink 15 rfl
theorem dX8_ink_26 : decode cX8_ink 26 = .ok (.invokevirtual 152, 3) := allD_get dtX8_ink 16 rfl
theorem dX8_ink_29 : decode cX8_ink 29 = .ok (.if_icmp .ge 74, 3) := allD_get dtX8_ink 17 rfl
theorem dX8_ink_32 : decode cX8_ink 32 = .ok (.iconst 0, 1) := allD_get dtX8_ink 18 rfl
theorem dX8_ink_33 : decode cX8_ink 33 = .ok (.istore_n 3, 1) := allD_get dtX8_ink 19 rfl
theorem dX8_ink_34 : decode cX8_ink 34 = .ok (.iload_n 3, 1) := allD_get dtX8_ink 20 rfl
theorem dX8_ink_35 : decode cX8_ink 35 = .ok (.aload_n 0, 1) := allD_get dtX8_ink 21 rfl
theorem dX8_ink_36 : decode cX8_ink 36 = .ok (.iload_n 2, 1) := allD_get dtX8_ink 22 rfl
theorem dX8_ink_37 : decode cX8_ink 37 = .ok (.invokevirtual 135, 3) := allD_get dtX8_ink 23 rfl
theorem dX8_ink_40 : decode cX8_ink 40 = .ok (.if_icmp .ge 57, 3) := allD_get dtX8_ink 24 rfl
theorem dX8_ink_43 : decode cX8_ink 43 = .ok (.iload_n 1, 1) := allD_get dtX8_ink 25 rfl
theorem dX8_ink_44 : decode cX8_ink 44 = .ok (.ifCond .lt 16, 3) := allD_get dtX8_ink 26 rfl
theorem dX8_ink_47 : decode cX8_ink 47 = .ok (.aload_n 0, 1) := allD_get dtX8_ink 27 rfl
theorem dX8_ink_48 : decode cX8_ink 48 = .ok (.getfield 7, 3) := allD_get dtX8_ink 28 rfl
theorem dX8_ink_51 : decode cX8_ink 51 = .ok (.bipush 17, 2) := allD_get dtX8_ink 29 rfl
theorem dX8_ink_53 : decode cX8_ink 53 = .ok (.iload_n 2, 1) := allD_get dtX8_ink 30 rfl
theorem dX8_ink_54 : decode cX8_ink 54 = .ok (.iadd, 1) := allD_get dtX8_ink 31 rfl
theorem dX8_ink_55 : decode cX8_ink 55 = .ok (.iaload, 1) := allD_get dtX8_ink 32 rfl
theorem dX8_ink_56 : decode cX8_ink 56 = .ok (.iload_n 1, 1) := allD_get dtX8_ink 33 rfl
theorem dX8_ink_57 : decode cX8_ink 57 = .ok (.if_icmp .ne 40, 3) := allD_get dtX8_ink 34 rfl
theorem dX8_ink_60 : decode cX8_ink 60 = .ok (.aload_n 0, 1) := allD_get dtX8_ink 35 rfl
theorem dX8_ink_61 : decode cX8_ink 61 = .ok (.getfield 72, 3) := allD_get dtX8_ink 36 rfl
theorem dX8_ink_64 : decode cX8_ink 64 = .ok (.bipush 101, 2) := allD_get dtX8_ink 37 rfl
theorem dX8_ink_66 : decode cX8_ink 66 = .ok (.aload_n 0, 1) := allD_get dtX8_ink 38 rfl
theorem dX8_ink_67 : decode cX8_ink 67 = .ok (.iload_n 2, 1) := allD_get dtX8_ink 39 rfl
theorem dX8_ink_68 : decode cX8_ink 68 = .ok (.iload_n 3, 1) := allD_get dtX8_ink 40 rfl
theorem dX8_ink_69 : decode cX8_ink 69 = .ok (.invokevirtual 143, 3) := allD_get dtX8_ink 41 rfl
theorem dX8_ink_72 : decode cX8_ink 72 = .ok (.bipush 10, 2) := allD_get dtX8_ink 42 rfl
theorem dX8_ink_74 : decode cX8_ink 74 = .ok (.idiv, 1) := allD_get dtX8_ink 43 rfl
theorem dX8_ink_75 : decode cX8_ink 75 = .ok (.imul, 1) := allD_get dtX8_ink 44 rfl
theorem dX8_ink_76 : decode cX8_ink 76 = .ok (.aload_n 0, 1) := allD_get dtX8_ink 45 rfl
theorem dX8_ink_77 : decode cX8_ink 77 = .ok (.iload_n 2, 1) := allD_get dtX8_ink 46 rfl
theorem dX8_ink_78 : decode cX8_ink 78 = .ok (.iload_n 3, 1) := allD_get dtX8_ink 47 rfl
theorem dX8_ink_79 : decode cX8_ink 79 = .ok (.invokevirtual 139, 3) := allD_get dtX8_ink 48 rfl
theorem dX8_ink_82 : decode cX8_ink 82 = .ok (.bipush 10, 2) := allD_get dtX8_ink 49 rfl
theorem dX8_ink_84 : decode cX8_ink 84 = .ok (.idiv, 1) := allD_get dtX8_ink 50 rfl
theorem dX8_ink_85 : decode cX8_ink 85 = .ok (.iadd, 1) := allD_get dtX8_ink 51 rfl
theorem dX8_ink_86 : decode cX8_ink 86 = .ok (.dup2, 1) := allD_get dtX8_ink 52 rfl
theorem dX8_ink_87 : decode cX8_ink 87 = .ok (.iaload, 1) := allD_get dtX8_ink 53 rfl
theorem dX8_ink_88 : decode cX8_ink 88 = .ok (.iconst 1, 1) := allD_get dtX8_ink 54 rfl
theorem dX8_ink_89 : decode cX8_ink 89 = .ok (.iadd, 1) := allD_get dtX8_ink 55 rfl
theorem dX8_ink_90 : decode cX8_ink 90 = .ok (.iastore, 1) := allD_get dtX8_ink 56 rfl
theorem dX8_ink_91 : decode cX8_ink 91 = .ok (.iinc 3 1, 3) := allD_get dtX8_ink 57 rfl
theorem dX8_ink_94 : decode cX8_ink 94 = .ok (.goto (-60), 3) := allD_get dtX8_ink 58 rfl
theorem dX8_ink_97 : decode cX8_ink 97 = .ok (.iinc 2 1, 3) := allD_get dtX8_ink 59 rfl
theorem dX8_ink_100 : decode cX8_ink 100 = .ok (.goto (-76), 3) := allD_get dtX8_ink 60 rfl
theorem dX8_ink_103 : decode cX8_ink 103 = .ok (.return_, 1) := allD_get dtX8_ink 61 rfl
def tbX8_inkedCells : List (Nat × Instr × Nat) := [(0, .iconst 0, 1), (1, .istore_n 1, 1), (2, .iconst 0, 1), (3, .istore_n 2, 1), (4, .iload_n 2, 1), (5, .sipush 10201, 3), (8, .if_icmp .ge 26, 3), (11, .iload_n 1, 1), (12, .aload_n 0, 1), (13, .getfield 72, 3), (16, .iload_n 2, 1), (17, .iaload, 1), (18, .ifCond .le 7, 3), (21, .iconst 1, 1), (22, .goto 4, 3), (25, .iconst 0, 1), (26, .iadd, 1), (27, .istore_n 1, 1), (28, .iinc 2 1, 3), (31, .goto (-27), 3), (34, .iload_n 1, 1), (35, .ireturn, 1)]
set_option maxRecDepth 100000 in
theorem dtX8_inkedCells : allD cX8_inkedCells tbX8_inkedCells = true := by decide +kernel
theorem dX8_inkedCells_0 : decode cX8_inkedCells 0 = .ok (.iconst 0, 1) := allD_get dtX8_inkedCells 0 rfl
theorem dX8_inkedCells_1 : decode cX8_inkedCells 1 = .ok (.istore_n 1, 1) := allD_get dtX8_inkedCells 1 rfl
theorem dX8_inkedCells_2 : decode cX8_inkedCells 2 = .ok (.iconst 0, 1) := allD_get dtX8_inkedCells 2 rfl
theorem dX8_inkedCells_3 : decode cX8_inkedCells 3 = .ok (.istore_n 2, 1) := allD_get dtX8_inkedCells 3 rfl
theorem dX8_inkedCells_4 : decode cX8_inkedCells 4 = .ok (.iload_n 2, 1) := allD_get dtX8_inkedCells 4 rfl
theorem dX8_inkedCells_5 : decode cX8_inkedCells 5 = .ok (.sipush 10201, 3) := allD_get dtX8_inkedCells 5 rfl
theorem dX8_inkedCells_8 : decode cX8_inkedCells 8 = .ok (.if_icmp .ge 26, 3) := allD_get dtX8_inkedCells 6 rfl
theorem dX8_inkedCells_11 : decode cX8_inkedCells 11 = .ok (.iload_n 1, 1) := allD_get dtX8_inkedCells 7 rfl
theorem dX8_inkedCells_12 : decode cX8_inkedCells 12 = .ok (.aload_n 0, 1) := allD_get dtX8_inkedCells 8 rfl
theorem dX8_inkedCells_13 : decode cX8_inkedCells 13 = .ok (.getfield 72, 3) := allD_get dtX8_inkedCells 9 rfl
theorem dX8_inkedCells_16 : decode cX8_inkedCells 16 = .ok (.iload_n 2, 1) := allD_get dtX8_inkedCells 10 rfl
theorem dX8_inkedCells_17 : decode cX8_inkedCells 17 = .ok (.iaload, 1) := allD_get dtX8_inkedCells 11 rfl
theorem dX8_inkedCells_18 : decode cX8_inkedCells 18 = .ok (.ifCond .le 7, 3) := allD_get dtX8_inkedCells 12 rfl
theorem dX8_inkedCells_21 : decode cX8_inkedCells 21 = .ok (.iconst 1, 1) := allD_get dtX8_inkedCells 13 rfl
theorem dX8_inkedCells_22 : decode cX8_inkedCells 22 = .ok (.goto 4, 3) := allD_get dtX8_inkedCells 14 rfl
theorem dX8_inkedCells_25 : decode cX8_inkedCells 25 = .ok (.iconst 0, 1) := allD_get dtX8_inkedCells 15 rfl
theorem dX8_inkedCells_26 : decode cX8_inkedCells 26 = .ok (.iadd, 1) := allD_get dtX8_inkedCells 16 rfl
theorem dX8_inkedCells_27 : decode cX8_inkedCells 27 = .ok (.istore_n 1, 1) := allD_get dtX8_inkedCells 17 rfl
theorem dX8_inkedCells_28 : decode cX8_inkedCells 28 = .ok (.iinc 2 1, 3) := allD_get dtX8_inkedCells 18 rfl
theorem dX8_inkedCells_31 : decode cX8_inkedCells 31 = .ok (.goto (-27), 3) := allD_get dtX8_inkedCells 19 rfl
theorem dX8_inkedCells_34 : decode cX8_inkedCells 34 = .ok (.iload_n 1, 1) := allD_get dtX8_inkedCells 20 rfl
theorem dX8_inkedCells_35 : decode cX8_inkedCells 35 = .ok (.ireturn, 1) := allD_get dtX8_inkedCells 21 rfl
def tbX8_fullest : List (Nat × Instr × Nat) := [(0, .iconst 0, 1), (1, .istore_n 1, 1), (2, .iconst 0, 1), (3, .istore_n 2, 1), (4, .iload_n 2, 1), (5, .sipush 10201, 3), (8, .if_icmp .ge 30, 3), (11, .aload_n 0, 1), (12, .getfield 72, 3), (15, .iload_n 2, 1), (16, .iaload, 1), (17, .iload_n 1, 1), (18, .if_icmp .le 12, 3), (21, .aload_n 0, 1), (22, .getfield 72, 3), (25, .iload_n 2, 1), (26, .iaload, 1), (27, .goto 4, 3), (30, .iload_n 1, 1), (31, .istore_n 1, 1), (32, .iinc 2 1, 3), (35, .goto (-31), 3), (38, .iload_n 1, 1), (39, .ireturn, 1)]
set_option maxRecDepth 100000 in
theorem dtX8_fullest : allD cX8_fullest tbX8_fullest = true := by decide +kernel
theorem dX8_fullest_0 : decode cX8_fullest 0 = .ok (.iconst 0, 1) := allD_get dtX8_fullest 0 rfl
theorem dX8_fullest_1 : decode cX8_fullest 1 = .ok (.istore_n 1, 1) := allD_get dtX8_fullest 1 rfl
theorem dX8_fullest_2 : decode cX8_fullest 2 = .ok (.iconst 0, 1) := allD_get dtX8_fullest 2 rfl
theorem dX8_fullest_3 : decode cX8_fullest 3 = .ok (.istore_n 2, 1) := allD_get dtX8_fullest 3 rfl
theorem dX8_fullest_4 : decode cX8_fullest 4 = .ok (.iload_n 2, 1) := allD_get dtX8_fullest 4 rfl
theorem dX8_fullest_5 : decode cX8_fullest 5 = .ok (.sipush 10201, 3) := allD_get dtX8_fullest 5 rfl
theorem dX8_fullest_8 : decode cX8_fullest 8 = .ok (.if_icmp .ge 30, 3) := allD_get dtX8_fullest 6 rfl
theorem dX8_fullest_11 : decode cX8_fullest 11 = .ok (.aload_n 0, 1) := allD_get dtX8_fullest 7 rfl
theorem dX8_fullest_12 : decode cX8_fullest 12 = .ok (.getfield 72, 3) := allD_get dtX8_fullest 8 rfl
theorem dX8_fullest_15 : decode cX8_fullest 15 = .ok (.iload_n 2, 1) := allD_get dtX8_fullest 9 rfl
theorem dX8_fullest_16 : decode cX8_fullest 16 = .ok (.iaload, 1) := allD_get dtX8_fullest 10 rfl
theorem dX8_fullest_17 : decode cX8_fullest 17 = .ok (.iload_n 1, 1) := allD_get dtX8_fullest 11 rfl
theorem dX8_fullest_18 : decode cX8_fullest 18 = .ok (.if_icmp .le 12, 3) := allD_get dtX8_fullest 12 rfl
theorem dX8_fullest_21 : decode cX8_fullest 21 = .ok (.aload_n 0, 1) := allD_get dtX8_fullest 13 rfl
theorem dX8_fullest_22 : decode cX8_fullest 22 = .ok (.getfield 72, 3) := allD_get dtX8_fullest 14 rfl
theorem dX8_fullest_25 : decode cX8_fullest 25 = .ok (.iload_n 2, 1) := allD_get dtX8_fullest 15 rfl
theorem dX8_fullest_26 : decode cX8_fullest 26 = .ok (.iaload, 1) := allD_get dtX8_fullest 16 rfl
theorem dX8_fullest_27 : decode cX8_fullest 27 = .ok (.goto 4, 3) := allD_get dtX8_fullest 17 rfl
theorem dX8_fullest_30 : decode cX8_fullest 30 = .ok (.iload_n 1, 1) := allD_get dtX8_fullest 18 rfl
theorem dX8_fullest_31 : decode cX8_fullest 31 = .ok (.istore_n 1, 1) := allD_get dtX8_fullest 19 rfl
theorem dX8_fullest_32 : decode cX8_fullest 32 = .ok (.iinc 2 1, 3) := allD_get dtX8_fullest 20 rfl
theorem dX8_fullest_35 : decode cX8_fullest 35 = .ok (.goto (-31), 3) := allD_get dtX8_fullest 21 rfl
theorem dX8_fullest_38 : decode cX8_fullest 38 = .ok (.iload_n 1, 1) := allD_get dtX8_fullest 22 rfl
theorem dX8_fullest_39 : decode cX8_fullest 39 = .ok (.ireturn, 1) := allD_get dtX8_fullest 23 rfl
def tbX8_cell : List (Nat × Instr × Nat) := [(0, .iload_n 1, 1), (1, .invokestatic 99, 3), (4, .ifCond .eq 10, 3), (7, .iload_n 2, 1), (8, .invokestatic 99, 3), (11, .ifCond .ne 6, 3), (14, .bipush (-2), 2), (16, .ireturn, 1), (17, .aload_n 0, 1), (18, .bipush (-5), 2), (20, .invokevirtual 226, 3), (23, .aload_n 0, 1), (24, .getfield 72, 3), (27, .bipush 101, 2), (29, .iload_n 2, 1), (30, .bipush 10, 2), (32, .idiv, 1), (33, .imul, 1), (34, .iload_n 1, 1), (35, .bipush 10, 2), (37, .idiv, 1), (38, .iadd, 1), (39, .iaload, 1), (40, .ireturn, 1)]
set_option maxRecDepth 100000 in
theorem dtX8_cell : allD cX8_cell tbX8_cell = true := by decide +kernel
theorem dX8_cell_0 : decode cX8_cell 0 = .ok (.iload_n 1, 1) := allD_get dtX8_cell 0 rfl
theorem dX8_cell_1 : decode cX8_cell 1 = .ok (.invokestatic 99, 3) := allD_get dtX8_cell 1 rfl
theorem dX8_cell_4 : decode cX8_cell 4 = .ok (.ifCond .eq 10, 3) := allD_get dtX8_cell 2 rfl
theorem dX8_cell_7 : decode cX8_cell 7 = .ok (.iload_n 2, 1) := allD_get dtX8_cell 3 rfl
theorem dX8_cell_8 : decode cX8_cell 8 = .ok (.invokestatic 99, 3) := allD_get dtX8_cell 4 rfl
theorem dX8_cell_11 : decode cX8_cell 11 = .ok (.ifCond .ne 6, 3) := allD_get dtX8_cell 5 rfl
theorem dX8_cell_14 : decode cX8_cell 14 = .ok (.bipush (-2), 2) := allD_get dtX8_cell 6 rfl
theorem dX8_cell_16 : decode cX8_cell 16 = .ok (.ireturn, 1) := allD_get dtX8_cell 7 rfl
theorem dX8_cell_17 : decode cX8_cell 17 = .ok (.aload_n 0, 1) := allD_get dtX8_cell 8 rfl
theorem dX8_cell_18 : decode cX8_cell 18 = .ok (.bipush (-5), 2) := allD_get dtX8_cell 9 rfl
theorem dX8_cell_20 : decode cX8_cell 20 = .ok (.invokevirtual 226, 3) := allD_get dtX8_cell 10 rfl
theorem dX8_cell_23 : decode cX8_cell 23 = .ok (.aload_n 0, 1) := allD_get dtX8_cell 11 rfl
theorem dX8_cell_24 : decode cX8_cell 24 = .ok (.getfield 72, 3) := allD_get dtX8_cell 12 rfl
theorem dX8_cell_27 : decode cX8_cell 27 = .ok (.bipush 101, 2) := allD_get dtX8_cell 13 rfl
theorem dX8_cell_29 : decode cX8_cell 29 = .ok (.iload_n 2, 1) := allD_get dtX8_cell 14 rfl
theorem dX8_cell_30 : decode cX8_cell 30 = .ok (.bipush 10, 2) := allD_get dtX8_cell 15 rfl
theorem dX8_cell_32 : decode cX8_cell 32 = .ok (.idiv, 1) := allD_get dtX8_cell 16 rfl
theorem dX8_cell_33 : decode cX8_cell 33 = .ok (.imul, 1) := allD_get dtX8_cell 17 rfl
theorem dX8_cell_34 : decode cX8_cell 34 = .ok (.iload_n 1, 1) := allD_get dtX8_cell 18 rfl
theorem dX8_cell_35 : decode cX8_cell 35 = .ok (.bipush 10, 2) := allD_get dtX8_cell 19 rfl
theorem dX8_cell_37 : decode cX8_cell 37 = .ok (.idiv, 1) := allD_get dtX8_cell 20 rfl
theorem dX8_cell_38 : decode cX8_cell 38 = .ok (.iadd, 1) := allD_get dtX8_cell 21 rfl
theorem dX8_cell_39 : decode cX8_cell 39 = .ok (.iaload, 1) := allD_get dtX8_cell 22 rfl
theorem dX8_cell_40 : decode cX8_cell 40 = .ok (.ireturn, 1) := allD_get dtX8_cell 23 rfl
def tbX8_color : List (Nat × Instr × Nat) := [(0, .iload_n 1, 1), (1, .iconst 0, 1), (2, .iconst 3, 1), (3, .invokestatic 75, 3), (6, .ifCond .eq 12, 3), (9, .iload_n 2, 1), (10, .iconst 0, 1), (11, .iconst 3, 1), (12, .invokestatic 75, 3), (15, .ifCond .ne 6, 3), (18, .bipush (-2), 2), (20, .ireturn, 1), (21, .iconst 0, 1), (22, .istore_n 3, 1), (23, .iconst 0, 1), (24, .istore 4, 2), (26, .iload 4, 2), (28, .aload_n 0, 1), (29, .invokevirtual 152, 3), (32, .if_icmp .ge 59, 3), (35, .iload_n 2, 1), (36, .iconst 3, 1), (37, .if_icmp .ge 54, 3), (40, .aload_n 0, 1), (41, .getfield 7, 3), (44, .bipush 17, 2), (46, .iload 4, 2), (48, .iadd, 1), (49, .iaload, 1), (50, .iload_n 1, 1), (51, .if_icmp .ne 34, 3), (54, .iload_n 3, 1), (55, .iload_n 2, 1), (56, .ifCond .ne 7, 3), (59, .iconst 1, 1), (60, .goto 23, 3), (63, .iload_n 2, 1), (64, .iconst 1, 1), (65, .if_icmp .ne 12, 3), (68, .aload_n 0, 1), (69, .iload 4, 2), (71, .invokevirtual 135, 3), (74, .goto 9, 3), (77, .aload_n 0, 1), (78, .iload 4, 2), (80, .invokevirtual 223, 3), (83, .iadd, 1), (84, .istore_n 3, 1), (85, .iinc 4 1, 3), (88, .goto (-62), 3), (91, .iload_n 2, 1), (92, .iconst 3, 1), (93, .if_icmp .ne 13, 3), (96, .aload_n 0, 1), (97, .iload_n 1, 1), (98, .invokevirtual 226, 3), (101, .aload_n 0, 1), (102, .invokevirtual 229, 3), (105, .istore_n 3, 1), (106, .iload_n 3, 1), (107, .ireturn, 1)]
set_option maxRecDepth 100000 in
theorem dtX8_color : allD cX8_color tbX8_color = true := by decide +kernel
theorem dX8_color_0 : decode cX8_color 0 = .ok (.iload_n 1, 1) := allD_get dtX8_color 0 rfl
theorem dX8_color_1 : decode cX8_color 1 = .ok (.iconst 0, 1) := allD_get dtX8_color 1 rfl
theorem dX8_color_2 : decode cX8_color 2 = .ok (.iconst 3, 1) := allD_get dtX8_color 2 rfl
theorem dX8_color_3 : decode cX8_color 3 = .ok (.invokestatic 75, 3) := allD_get dtX8_color 3 rfl
theorem dX8_color_6 : decode cX8_color 6 = .ok (.ifCond .eq 12, 3) := allD_get dtX8_color 4 rfl
theorem dX8_color_9 : decode cX8_color 9 = .ok (.iload_n 2, 1) := allD_get dtX8_color 5 rfl
theorem dX8_color_10 : decode cX8_color 10 = .ok (.iconst 0, 1) := allD_get dtX8_color 6 rfl
theorem dX8_color_11 : decode cX8_color 11 = .ok (.iconst 3, 1) := allD_get dtX8_color 7 rfl
theorem dX8_color_12 : decode cX8_color 12 = .ok (.invokestatic 75, 3) := allD_get dtX8_color 8 rfl
theorem dX8_color_15 : decode cX8_color 15 = .ok (.ifCond .ne 6, 3) := allD_get dtX8_color 9 rfl
theorem dX8_color_18 : decode cX8_color 18 = .ok (.bipush (-2), 2) := allD_get dtX8_color 10 rfl
theorem dX8_color_20 : decode cX8_color 20 = .ok (.ireturn, 1) := allD_get dtX8_color 11 rfl
theorem dX8_color_21 : decode cX8_color 21 = .ok (.iconst 0, 1) := allD_get dtX8_color 12 rfl
theorem dX8_color_22 : decode cX8_color 22 = .ok (.istore_n 3, 1) := allD_get dtX8_color 13 rfl
theorem dX8_color_23 : decode cX8_color 23 = .ok (.iconst 0, 1) := allD_get dtX8_color 14 rfl
theorem dX8_color_24 : decode cX8_color 24 = .ok (.istore 4, 2) := allD_get dtX8_color 15 rfl
theorem dX8_color_26 : decode cX8_color 26 = .ok (.iload 4, 2) := allD_get dtX8_color 16 rfl
theorem dX8_color_28 : decode cX8_color 28 = .ok (.aload_n 0, 1) := allD_get dtX8_color 17 rfl
theorem dX8_color_29 : decode cX8_color 29 = .ok (.invokevirtual 152, 3) := allD_get dtX8_color 18 rfl
theorem dX8_color_32 : decode cX8_color 32 = .ok (.if_icmp .ge 59, 3) := allD_get dtX8_color 19 rfl
theorem dX8_color_35 : decode cX8_color 35 = .ok (.iload_n 2, 1) := allD_get dtX8_color 20 rfl
theorem dX8_color_36 : decode cX8_color 36 = .ok (.iconst 3, 1) := allD_get dtX8_color 21 rfl
theorem dX8_color_37 : decode cX8_color 37 = .ok (.if_icmp .ge 54, 3) := allD_get dtX8_color 22 rfl
theorem dX8_color_40 : decode cX8_color 40 = .ok (.aload_n 0, 1) := allD_get dtX8_color 23 rfl
theorem dX8_color_41 : decode cX8_color 41 = .ok (.getfield 7, 3) := allD_get dtX8_color 24 rfl
theorem dX8_color_44 : decode cX8_color 44 = .ok (.bipush 17, 2) := allD_get dtX8_color 25 rfl
theorem dX8_color_46 : decode cX8_color 46 = .ok (.iload 4, 2) := allD_get dtX8_color 26 rfl
theorem dX8_color_48 : decode cX8_color 48 = .ok (.iadd, 1) := allD_get dtX8_color 27 rfl
theorem dX8_color_49 : decode cX8_color 49 = .ok (.iaload, 1) := allD_get dtX8_color 28 rfl
theorem dX8_color_50 : decode cX8_color 50 = .ok (.iload_n 1, 1) := allD_get dtX8_color 29 rfl
theorem dX8_color_51 : decode cX8_color 51 = .ok (.if_icmp .ne 34, 3) := allD_get dtX8_color 30 rfl
theorem dX8_color_54 : decode cX8_color 54 = .ok (.iload_n 3, 1) := allD_get dtX8_color 31 rfl
theorem dX8_color_55 : decode cX8_color 55 = .ok (.iload_n 2, 1) := allD_get dtX8_color 32 rfl
theorem dX8_color_56 : decode cX8_color 56 = .ok (.ifCond .ne 7, 3) := allD_get dtX8_color 33 rfl
theorem dX8_color_59 : decode cX8_color 59 = .ok (.iconst 1, 1) := allD_get dtX8_color 34 rfl
theorem dX8_color_60 : decode cX8_color 60 = .ok (.goto 23, 3) := allD_get dtX8_color 35 rfl
theorem dX8_color_63 : decode cX8_color 63 = .ok (.iload_n 2, 1) := allD_get dtX8_color 36 rfl
theorem dX8_color_64 : decode cX8_color 64 = .ok (.iconst 1, 1) := allD_get dtX8_color 37 rfl
theorem dX8_color_65 : decode cX8_color 65 = .ok (.if_icmp .ne 12, 3) := allD_get dtX8_color 38 rfl
theorem dX8_color_68 : decode cX8_color 68 = .ok (.aload_n 0, 1) := allD_get dtX8_color 39 rfl
theorem dX8_color_69 : decode cX8_color 69 = .ok (.iload 4, 2) := allD_get dtX8_color 40 rfl
theorem dX8_color_71 : decode cX8_color 71 = .ok (.invokevirtual 135, 3) := allD_get dtX8_color 41 rfl
theorem dX8_color_74 : decode cX8_color 74 = .ok (.goto 9, 3) := allD_get dtX8_color 42 rfl
theorem dX8_color_77 : decode cX8_color 77 = .ok (.aload_n 0, 1) := allD_get dtX8_color 43 rfl
theorem dX8_color_78 : decode cX8_color 78 = .ok (.iload 4, 2) := allD_get dtX8_color 44 rfl
theorem dX8_color_80 : decode cX8_color 80 = .ok (.invokevirtual 223, 3) := allD_get dtX8_color 45 rfl
theorem dX8_color_83 : decode cX8_color 83 = .ok (.iadd, 1) := allD_get dtX8_color 46 rfl
theorem dX8_color_84 : decode cX8_color 84 = .ok (.istore_n 3, 1) := allD_get dtX8_color 47 rfl
theorem dX8_color_85 : decode cX8_color 85 = .ok (.iinc 4 1, 3) := allD_get dtX8_color 48 rfl
theorem dX8_color_88 : decode cX8_color 88 = .ok (.goto (-62), 3) := allD_get dtX8_color 49 rfl
theorem dX8_color_91 : decode cX8_color 91 = .ok (.iload_n 2, 1) := allD_get dtX8_color 50 rfl
theorem dX8_color_92 : decode cX8_color 92 = .ok (.iconst 3, 1) := allD_get dtX8_color 51 rfl
theorem dX8_color_93 : decode cX8_color 93 = .ok (.if_icmp .ne 13, 3) := allD_get dtX8_color 52 rfl
theorem dX8_color_96 : decode cX8_color 96 = .ok (.aload_n 0, 1) := allD_get dtX8_color 53 rfl
theorem dX8_color_97 : decode cX8_color 97 = .ok (.iload_n 1, 1) := allD_get dtX8_color 54 rfl
theorem dX8_color_98 : decode cX8_color 98 = .ok (.invokevirtual 226, 3) := allD_get dtX8_color 55 rfl
theorem dX8_color_101 : decode cX8_color 101 = .ok (.aload_n 0, 1) := allD_get dtX8_color 56 rfl
theorem dX8_color_102 : decode cX8_color 102 = .ok (.invokevirtual 229, 3) := allD_get dtX8_color 57 rfl
theorem dX8_color_105 : decode cX8_color 105 = .ok (.istore_n 3, 1) := allD_get dtX8_color 58 rfl
theorem dX8_color_106 : decode cX8_color 106 = .ok (.iload_n 3, 1) := allD_get dtX8_color 59 rfl
theorem dX8_color_107 : decode cX8_color 107 = .ok (.ireturn, 1) := allD_get dtX8_color 60 rfl
def tbX8_count : List (Nat × Instr × Nat) := [(0, .aload_n 0, 1), (1, .invokevirtual 220, 3), (4, .aload_n 0, 1), (5, .bipush (-5), 2), (7, .invokevirtual 226, 3), (10, .iconst 0, 1), (11, .istore_n 2, 1), (12, .iconst 0, 1), (13, .istore_n 3, 1), (14, .iconst 0, 1), (15, .istore 4, 2), (17, .iload 4, 2), (19, .aload_n 0, 1), (20, .invokevirtual 152, 3), (23, .if_icmp .ge 27, 3), (26, .iload_n 2, 1), (27, .aload_n 0, 1), (28, .iload 4, 2), (30, .invokevirtual 135, 3), (33, .iadd, 1), (34, .istore_n 2, 1), (35, .iload_n 3, 1), (36, .aload_n 0, 1), (37, .iload 4, 2), (39, .invokevirtual 223, 3), (42, .iadd, 1), (43, .istore_n 3, 1), (44, .iinc 4 1, 3), (47, .goto (-30), 3), (50, .iload_n 1, 1), (51, .tableswitch 106 0 10 #[57, 62, 64, 66, 71, 76, 81, 86, 91, 96, 101], 57), (108, .aload_n 0, 1), (109, .invokevirtual 152, 3), (112, .ireturn, 1), (113, .iload_n 2, 1), (114, .ireturn, 1), (115, .iload_n 3, 1), (116, .ireturn, 1), (117, .aload_n 0, 1), (118, .getfield 192, 3), (121, .ireturn, 1), (122, .aload_n 0, 1), (123, .getfield 217, 3), (126, .ireturn, 1), (127, .aload_n 0, 1), (128, .invokevirtual 229, 3), (131, .ireturn, 1), (132, .aload_n 0, 1), (133, .invokevirtual 232, 3), (136, .ireturn, 1), (137, .aload_n 0, 1), (138, .getfield 92, 3), (141, .ireturn, 1), (142, .aload_n 0, 1), (143, .getfield 79, 3), (146, .ireturn, 1), (147, .aload_n 0, 1), (148, .getfield 89, 3), (151, .ireturn, 1), (152, .aload_n 0, 1), (153, .getfield 13, 3), (156, .ireturn, 1), (157, .bipush (-2), 2), (159, .ireturn, 1)]
set_option maxRecDepth 100000 in
theorem dtX8_count : allD cX8_count tbX8_count = true := by decide +kernel
theorem dX8_count_0 : decode cX8_count 0 = .ok (.aload_n 0, 1) := allD_get dtX8_count 0 rfl
theorem dX8_count_1 : decode cX8_count 1 = .ok (.invokevirtual 220, 3) := allD_get dtX8_count 1 rfl
theorem dX8_count_4 : decode cX8_count 4 = .ok (.aload_n 0, 1) := allD_get dtX8_count 2 rfl
theorem dX8_count_5 : decode cX8_count 5 = .ok (.bipush (-5), 2) := allD_get dtX8_count 3 rfl
theorem dX8_count_7 : decode cX8_count 7 = .ok (.invokevirtual 226, 3) := allD_get dtX8_count 4 rfl
theorem dX8_count_10 : decode cX8_count 10 = .ok (.iconst 0, 1) := allD_get dtX8_count 5 rfl
theorem dX8_count_11 : decode cX8_count 11 = .ok (.istore_n 2, 1) := allD_get dtX8_count 6 rfl
theorem dX8_count_12 : decode cX8_count 12 = .ok (.iconst 0, 1) := allD_get dtX8_count 7 rfl
theorem dX8_count_13 : decode cX8_count 13 = .ok (.istore_n 3, 1) := allD_get dtX8_count 8 rfl
theorem dX8_count_14 : decode cX8_count 14 = .ok (.iconst 0, 1) := allD_get dtX8_count 9 rfl
theorem dX8_count_15 : decode cX8_count 15 = .ok (.istore 4, 2) := allD_get dtX8_count 10 rfl
theorem dX8_count_17 : decode cX8_count 17 = .ok (.iload 4, 2) := allD_get dtX8_count 11 rfl
theorem dX8_count_19 : decode cX8_count 19 = .ok (.aload_n 0, 1) := allD_get dtX8_count 12 rfl
theorem dX8_count_20 : decode cX8_count 20 = .ok (.invokevirtual 152, 3) := allD_get dtX8_count 13 rfl
theorem dX8_count_23 : decode cX8_count 23 = .ok (.if_icmp .ge 27, 3) := allD_get dtX8_count 14 rfl
theorem dX8_count_26 : decode cX8_count 26 = .ok (.iload_n 2, 1) := allD_get dtX8_count 15 rfl
theorem dX8_count_27 : decode cX8_count 27 = .ok (.aload_n 0, 1) := allD_get dtX8_count 16 rfl
theorem dX8_count_28 : decode cX8_count 28 = .ok (.iload 4, 2) := allD_get dtX8_count 17 rfl
theorem dX8_count_30 : decode cX8_count 30 = .ok (.invokevirtual 135, 3) := allD_get dtX8_count 18 rfl
theorem dX8_count_33 : decode cX8_count 33 = .ok (.iadd, 1) := allD_get dtX8_count 19 rfl
theorem dX8_count_34 : decode cX8_count 34 = .ok (.istore_n 2, 1) := allD_get dtX8_count 20 rfl
theorem dX8_count_35 : decode cX8_count 35 = .ok (.iload_n 3, 1) := allD_get dtX8_count 21 rfl
theorem dX8_count_36 : decode cX8_count 36 = .ok (.aload_n 0, 1) := allD_get dtX8_count 22 rfl
theorem dX8_count_37 : decode cX8_count 37 = .ok (.iload 4, 2) := allD_get dtX8_count 23 rfl
theorem dX8_count_39 : decode cX8_count 39 = .ok (.invokevirtual 223, 3) := allD_get dtX8_count 24 rfl
theorem dX8_count_42 : decode cX8_count 42 = .ok (.iadd, 1) := allD_get dtX8_count 25 rfl
theorem dX8_count_43 : decode cX8_count 43 = .ok (.istore_n 3, 1) := allD_get dtX8_count 26 rfl
theorem dX8_count_44 : decode cX8_count 44 = .ok (.iinc 4 1, 3) := allD_get dtX8_count 27 rfl
theorem dX8_count_47 : decode cX8_count 47 = .ok (.goto (-30), 3) := allD_get dtX8_count 28 rfl
theorem dX8_count_50 : decode cX8_count 50 = .ok (.iload_n 1, 1) := allD_get dtX8_count 29 rfl
theorem dX8_count_51 : decode cX8_count 51 = .ok (.tableswitch 106 0 10 #[57, 62, 64, 66, 71, 76, 81, 86, 91, 96, 101], 57) := allD_get dtX8_count 30 rfl
theorem dX8_count_108 : decode cX8_count 108 = .ok (.aload_n 0, 1) := allD_get dtX8_count 31 rfl
theorem dX8_count_109 : decode cX8_count 109 = .ok (.invokevirtual 152, 3) := allD_get dtX8_count 32 rfl
theorem dX8_count_112 : decode cX8_count 112 = .ok (.ireturn, 1) := allD_get dtX8_count 33 rfl
theorem dX8_count_113 : decode cX8_count 113 = .ok (.iload_n 2, 1) := allD_get dtX8_count 34 rfl
theorem dX8_count_114 : decode cX8_count 114 = .ok (.ireturn, 1) := allD_get dtX8_count 35 rfl
theorem dX8_count_115 : decode cX8_count 115 = .ok (.iload_n 3, 1) := allD_get dtX8_count 36 rfl
theorem dX8_count_116 : decode cX8_count 116 = .ok (.ireturn, 1) := allD_get dtX8_count 37 rfl
theorem dX8_count_117 : decode cX8_count 117 = .ok (.aload_n 0, 1) := allD_get dtX8_count 38 rfl
theorem dX8_count_118 : decode cX8_count 118 = .ok (.getfield 192, 3) := allD_get dtX8_count 39 rfl
theorem dX8_count_121 : decode cX8_count 121 = .ok (.ireturn, 1) := allD_get dtX8_count 40 rfl
theorem dX8_count_122 : decode cX8_count 122 = .ok (.aload_n 0, 1) := allD_get dtX8_count 41 rfl
theorem dX8_count_123 : decode cX8_count 123 = .ok (.getfield 217, 3) := allD_get dtX8_count 42 rfl
theorem dX8_count_126 : decode cX8_count 126 = .ok (.ireturn, 1) := allD_get dtX8_count 43 rfl
theorem dX8_count_127 : decode cX8_count 127 = .ok (.aload_n 0, 1) := allD_get dtX8_count 44 rfl
theorem dX8_count_128 : decode cX8_count 128 = .ok (.invokevirtual 229, 3) := allD_get dtX8_count 45 rfl
theorem dX8_count_131 : decode cX8_count 131 = .ok (.ireturn, 1) := allD_get dtX8_count 46 rfl
theorem dX8_count_132 : decode cX8_count 132 = .ok (.aload_n 0, 1) := allD_get dtX8_count 47 rfl
theorem dX8_count_133 : decode cX8_count 133 = .ok (.invokevirtual 232, 3) := allD_get dtX8_count 48 rfl
theorem dX8_count_136 : decode cX8_count 136 = .ok (.ireturn, 1) := allD_get dtX8_count 49 rfl
theorem dX8_count_137 : decode cX8_count 137 = .ok (.aload_n 0, 1) := allD_get dtX8_count 50 rfl
theorem dX8_count_138 : decode cX8_count 138 = .ok (.getfield 92, 3) := allD_get dtX8_count 51 rfl
theorem dX8_count_141 : decode cX8_count 141 = .ok (.ireturn, 1) := allD_get dtX8_count 52 rfl
theorem dX8_count_142 : decode cX8_count 142 = .ok (.aload_n 0, 1) := allD_get dtX8_count 53 rfl
theorem dX8_count_143 : decode cX8_count 143 = .ok (.getfield 79, 3) := allD_get dtX8_count 54 rfl
theorem dX8_count_146 : decode cX8_count 146 = .ok (.ireturn, 1) := allD_get dtX8_count 55 rfl
theorem dX8_count_147 : decode cX8_count 147 = .ok (.aload_n 0, 1) := allD_get dtX8_count 56 rfl
theorem dX8_count_148 : decode cX8_count 148 = .ok (.getfield 89, 3) := allD_get dtX8_count 57 rfl
theorem dX8_count_151 : decode cX8_count 151 = .ok (.ireturn, 1) := allD_get dtX8_count 58 rfl
theorem dX8_count_152 : decode cX8_count 152 = .ok (.aload_n 0, 1) := allD_get dtX8_count 59 rfl
theorem dX8_count_153 : decode cX8_count 153 = .ok (.getfield 13, 3) := allD_get dtX8_count 60 rfl
theorem dX8_count_156 : decode cX8_count 156 = .ok (.ireturn, 1) := allD_get dtX8_count 61 rfl
theorem dX8_count_157 : decode cX8_count 157 = .ok (.bipush (-2), 2) := allD_get dtX8_count 62 rfl
theorem dX8_count_159 : decode cX8_count 159 = .ok (.ireturn, 1) := allD_get dtX8_count 63 rfl
