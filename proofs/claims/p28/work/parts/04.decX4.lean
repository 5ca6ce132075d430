/-! the instructions of X4's methods, by program -/
def tbX4_init : List (Nat × Instr × Nat) := [(0, .aload_n 0, 1), (1, .invokespecial 3, 3), (4, .aload_n 0, 1), (5, .bipush 100, 2), (7, .newarray .char, 2), (9, .putfield 9, 3), (12, .return_, 1)]
set_option maxRecDepth 100000 in
theorem dtX4_init : allD cX4_init tbX4_init = true := by decide +kernel
theorem dX4_init_0 : decode cX4_init 0 = .ok (.aload_n 0, 1) := allD_get dtX4_init 0 rfl
theorem dX4_init_1 : decode cX4_init 1 = .ok (.invokespecial 3, 3) := allD_get dtX4_init 1 rfl
theorem dX4_init_4 : decode cX4_init 4 = .ok (.aload_n 0, 1) := allD_get dtX4_init 2 rfl
theorem dX4_init_5 : decode cX4_init 5 = .ok (.bipush 100, 2) := allD_get dtX4_init 3 rfl
theorem dX4_init_7 : decode cX4_init 7 = .ok (.newarray .char, 2) := allD_get dtX4_init 4 rfl
theorem dX4_init_9 : decode cX4_init 9 = .ok (.putfield 9, 3) := allD_get dtX4_init 5 rfl
theorem dX4_init_12 : decode cX4_init 12 = .ok (.return_, 1) := allD_get dtX4_init 6 rfl
def tbX4_empty : List (Nat × Instr × Nat) := [(0, .aload_n 0, 1), (1, .iconst 0, 1), (2, .putfield 15, 3), (5, .return_, 1)]
set_option maxRecDepth 100000 in
theorem dtX4_empty : allD cX4_empty tbX4_empty = true := by decide +kernel
theorem dX4_empty_0 : decode cX4_empty 0 = .ok (.aload_n 0, 1) := allD_get dtX4_empty 0 rfl
theorem dX4_empty_1 : decode cX4_empty 1 = .ok (.iconst 0, 1) := allD_get dtX4_empty 1 rfl
theorem dX4_empty_2 : decode cX4_empty 2 = .ok (.putfield 15, 3) := allD_get dtX4_empty 2 rfl
theorem dX4_empty_5 : decode cX4_empty 5 = .ok (.return_, 1) := allD_get dtX4_empty 3 rfl
def tbX4_append : List (Nat × Instr × Nat) := [(0, .aload_n 0, 1), (1, .getfield 15, 3), (4, .bipush 100, 2), (6, .if_icmp .ge 23, 3), (9, .aload_n 0, 1), (10, .getfield 9, 3), (13, .aload_n 0, 1), (14, .getfield 15, 3), (17, .iload_n 1, 1), (18, .castore, 1), (19, .aload_n 0, 1), (20, .dup, 1), (21, .getfield 15, 3), (24, .iconst 1, 1), (25, .iadd, 1), (26, .putfield 15, 3), (29, .return_, 1)]
set_option maxRecDepth 100000 in
theorem dtX4_append : allD cX4_append tbX4_append = true := by decide +kernel
theorem dX4_append_0 : decode cX4_append 0 = .ok (.aload_n 0, 1) := allD_get dtX4_append 0 rfl
theorem dX4_append_1 : decode cX4_append 1 = .ok (.getfield 15, 3) := allD_get dtX4_append 1 rfl
theorem dX4_append_4 : decode cX4_append 4 = .ok (.bipush 100, 2) := allD_get dtX4_append 2 rfl
theorem dX4_append_6 : decode cX4_append 6 = .ok (.if_icmp .ge 23, 3) := allD_get dtX4_append 3 rfl
theorem dX4_append_9 : decode cX4_append 9 = .ok (.aload_n 0, 1) := allD_get dtX4_append 4 rfl
theorem dX4_append_10 : decode cX4_append 10 = .ok (.getfield 9, 3) := allD_get dtX4_append 5 rfl
theorem dX4_append_13 : decode cX4_append 13 = .ok (.aload_n 0, 1) := allD_get dtX4_append 6 rfl
theorem dX4_append_14 : decode cX4_append 14 = .ok (.getfield 15, 3) := allD_get dtX4_append 7 rfl
theorem dX4_append_17 : decode cX4_append 17 = .ok (.iload_n 1, 1) := allD_get dtX4_append 8 rfl
theorem dX4_append_18 : decode cX4_append 18 = .ok (.castore, 1) := allD_get dtX4_append 9 rfl
theorem dX4_append_19 : decode cX4_append 19 = .ok (.aload_n 0, 1) := allD_get dtX4_append 10 rfl
theorem dX4_append_20 : decode cX4_append 20 = .ok (.dup, 1) := allD_get dtX4_append 11 rfl
theorem dX4_append_21 : decode cX4_append 21 = .ok (.getfield 15, 3) := allD_get dtX4_append 12 rfl
theorem dX4_append_24 : decode cX4_append 24 = .ok (.iconst 1, 1) := allD_get dtX4_append 13 rfl
theorem dX4_append_25 : decode cX4_append 25 = .ok (.iadd, 1) := allD_get dtX4_append 14 rfl
theorem dX4_append_26 : decode cX4_append 26 = .ok (.putfield 15, 3) := allD_get dtX4_append 15 rfl
theorem dX4_append_29 : decode cX4_append 29 = .ok (.return_, 1) := allD_get dtX4_append 16 rfl
def tbX4_parse : List (Nat × Instr × Nat) := [(0, .aload_n 1, 1), (1, .invokevirtual 19, 3), (4, .iconst 0, 1), (5, .istore_n 2, 1), (6, .iconst 0, 1), (7, .istore_n 3, 1), (8, .iconst 0, 1), (9, .istore 4, 2), (11, .iconst 0, 1), (12, .istore 5, 2), (14, .iconst 0, 1), (15, .istore 6, 2), (17, .iconst 0, 1), (18, .istore 7, 2), (20, .iload 7, 2), (22, .aload_n 0, 1), (23, .getfield 15, 3), (26, .if_icmp .ge 160, 3), (29, .aload_n 0, 1), (30, .getfield 9, 3), (33, .iload 7, 2), (35, .caload, 1), (36, .istore 8, 2), (38, .iload 8, 2), (40, .invokestatic 24, 3), (43, .ifCond .eq 31, 3), (46, .iload 6, 2), (48, .iconst 4, 1), (49, .if_icmp .ne 6, 3), (52, .iload 7, 2), (54, .ireturn, 1), (55, .iload 5, 2), (57, .bipush 10, 2), (59, .imul, 1), (60, .iload 8, 2), (62, .bipush 48, 2), (64, .isub, 1), (65, .iadd, 1), (66, .istore 5, 2), (68, .iinc 6 1, 3), (71, .goto 109, 3), (74, .iload 5, 2), (76, .sipush 1000, 3), (79, .if_icmp .le 9, 3), (82, .iload 7, 2), (84, .iload 6, 2), (86, .isub, 1), (87, .ireturn, 1), (88, .iload 4, 2), (90, .ifCond .eq 24, 3), (93, .iload 8, 2), (95, .bipush 32, 2), (97, .if_icmp .ne 13, 3), (100, .iload_n 2, 1), (101, .bipush 23, 2), (103, .if_icmp .ge 7, 3), (106, .iconst 1, 1), (107, .goto 19, 3), (110, .iconst 0, 1), (111, .goto 15, 3), (114, .iload 8, 2), (116, .bipush 44, 2), (118, .if_icmp .ne 7, 3), (121, .iconst 1, 1), (122, .goto 4, 3), (125, .iconst 0, 1), (126, .istore 9, 2), (128, .iload 6, 2), (130, .ifCond .eq 8, 3), (133, .iload 9, 2), (135, .ifCond .ne 6, 3), (138, .iload 7, 2), (140, .ireturn, 1), (141, .iload 4, 2), (143, .ifCond .eq 16, 3), (146, .aload_n 1, 1), (147, .iload_n 3, 1), (148, .iload 5, 2), (150, .invokevirtual 28, 3), (153, .iinc 2 1, 3), (156, .goto 6, 3), (159, .iload 5, 2), (161, .istore_n 3, 1), (162, .iload 4, 2), (164, .ifCond .ne 7, 3), (167, .iconst 1, 1), (168, .goto 4, 3), (171, .iconst 0, 1), (172, .istore 4, 2), (174, .iconst 0, 1), (175, .istore 5, 2), (177, .iconst 0, 1), (178, .istore 6, 2), (180, .iinc 7 1, 3), (183, .goto (-163), 3), (186, .iload 5, 2), (188, .sipush 1000, 3), (191, .if_icmp .le 11, 3), (194, .aload_n 0, 1), (195, .getfield 15, 3), (198, .iload 6, 2), (200, .isub, 1), (201, .ireturn, 1), (202, .iload 6, 2), (204, .ifCond .eq 8, 3), (207, .iload 4, 2), (209, .ifCond .ne 8, 3), (212, .aload_n 0, 1), (213, .getfield 15, 3), (216, .ireturn, 1), (217, .aload_n 1, 1), (218, .iload_n 3, 1), (219, .iload 5, 2), (221, .invokevirtual 28, 3), (224, .iconst (-1), 1), (225, .ireturn, 1)]
set_option maxRecDepth 100000 in
theorem dtX4_parse : allD cX4_parse tbX4_parse = true := by decide +kernel
theorem dX4_parse_0 : decode cX4_parse 0 = .ok (.aload_n 1, 1) := allD_get dtX4_parse 0 rfl
theorem dX4_parse_1 : decode cX4_parse 1 = .ok (.invokevirtual 19, 3) := allD_get dtX4_parse 1 rfl
theorem dX4_parse_4 : decode cX4_parse 4 = .ok (.iconst 0, 1) := allD_get dtX4_parse 2 rfl
theorem dX4_parse_5 : decode cX4_parse 5 = .ok (.istore_n 2, 1) := allD_get dtX4_parse 3 rfl
theorem dX4_parse_6 : decode cX4_parse 6 = .ok (.iconst 0, 1) := allD_get dtX4_parse 4 rfl
theorem dX4_parse_7 : decode cX4_parse 7 = .ok (.istore_n 3, 1) := allD_get dtX4_parse 5 rfl
theorem dX4_parse_8 : decode cX4_parse 8 = .ok (.iconst 0, 1) := allD_get dtX4_parse 6 rfl
theorem dX4_parse_9 : decode cX4_parse 9 = .ok (.istore 4, 2) := allD_get dtX4_parse 7 rfl
theorem dX4_parse_11 : decode cX4_parse 11 = .ok (.iconst 0, 1) := allD_get dtX4_parse 8 rfl
theorem dX4_parse_12 : decode cX4_parse 12 = .ok (.istore 5, 2) := allD_get dtX4_parse 9 rfl
theorem dX4_parse_14 : decode cX4_parse 14 = .ok (.iconst 0, 1) := allD_get dtX4_parse 10 rfl
theorem dX4_parse_15 : decode cX4_parse 15 = .ok (.istore 6, 2) := allD_get dtX4_parse 11 rfl
theorem dX4_parse_17 : decode cX4_parse 17 = .ok (.iconst 0, 1) := allD_get dtX4_parse 12 rfl
theorem dX4_parse_18 : decode cX4_parse 18 = .ok (.istore 7, 2) := allD_get dtX4_parse 13 rfl
theorem dX4_parse_20 : decode cX4_parse 20 = .ok (.iload 7, 2) := allD_get dtX4_parse 14 rfl
theorem dX4_parse_22 : decode cX4_parse 22 = .ok (.aload_n 0, 1) := allD_get dtX4_parse 15 rfl
theorem dX4_parse_23 : decode cX4_parse 23 = .ok (.getfield 15, 3) := allD_get dtX4_parse 16 rfl
theorem dX4_parse_26 : decode cX4_parse 26 = .ok (.if_icmp .ge 160, 3) := allD_get dtX4_parse 17 rfl
theorem dX4_parse_29 : decode cX4_parse 29 = .ok (.aload_n 0, 1) := allD_get dtX4_parse 18 rfl
theorem dX4_parse_30 : decode cX4_parse 30 = .ok (.getfield 9, 3) := allD_get dtX4_parse 19 rfl
theorem dX4_parse_33 : decode cX4_parse 33 = .ok (.iload 7, 2) := allD_get dtX4_parse 20 rfl
theorem dX4_parse_35 : decode cX4_parse 35 = .ok (.caload, 1) := allD_get dtX4_parse 21 rfl
theorem dX4_parse_36 : decode cX4_parse 36 = .ok (.istore 8, 2) := allD_get dtX4_parse 22 rfl
theorem dX4_parse_38 : decode cX4_parse 38 = .ok (.iload 8, 2) := allD_get dtX4_parse 23 rfl
theorem dX4_parse_40 : decode cX4_parse 40 = .ok (.invokestatic 24, 3) := allD_get dtX4_parse 24 rfl
theorem dX4_parse_43 : decode cX4_parse 43 = .ok (.ifCond .eq 31, 3) := allD_get dtX4_parse 25 rfl
theorem dX4_parse_46 : decode cX4_parse 46 = .ok (.iload 6, 2) := allD_get dtX4_parse 26 rfl
theorem dX4_parse_48 : decode cX4_parse 48 = .ok (.iconst 4, 1) := allD_get dtX4_parse 27 rfl
theorem dX4_parse_49 : decode cX4_parse 49 = .ok (.if_icmp .ne 6, 3) := allD_get dtX4_parse 28 rfl
theorem dX4_parse_52 : decode cX4_parse 52 = .ok (.iload 7, 2) := allD_get dtX4_parse 29 rfl
theorem dX4_parse_54 : decode cX4_parse 54 = .ok (.ireturn, 1) := allD_get dtX4_parse 30 rfl
theorem dX4_parse_55 : decode cX4_parse 55 = .ok (.iload 5, 2) := allD_get dtX4_parse 31 rfl
theorem dX4_parse_57 : decode cX4_parse 57 = .ok (.bipush 10, 2) := allD_get dtX4_parse 32 rfl
theorem dX4_parse_59 : decode cX4_parse 59 = .ok (.imul, 1) := allD_get dtX4_parse 33 rfl
theorem dX4_parse_60 : decode cX4_parse 60 = .ok (.iload 8, 2) := allD_get dtX4_parse 34 rfl
theorem dX4_parse_62 : decode cX4_parse 62 = .ok (.bipush 48, 2) := allD_get dtX4_parse 35 rfl
theorem dX4_parse_64 : decode cX4_parse 64 = .ok (.isub, 1) := allD_get dtX4_parse 36 rfl
theorem dX4_parse_65 : decode cX4_parse 65 = .ok (.iadd, 1) := allD_get dtX4_parse 37 rfl
theorem dX4_parse_66 : decode cX4_parse 66 = .ok (.istore 5, 2) := allD_get dtX4_parse 38 rfl
theorem dX4_parse_68 : decode cX4_parse 68 = .ok (.iinc 6 1, 3) := allD_get dtX4_parse 39 rfl
theorem dX4_parse_71 : decode cX4_parse 71 = .ok (.goto 109, 3) := allD_get dtX4_parse 40 rfl
theorem dX4_parse_74 : decode cX4_parse 74 = .ok (.iload 5, 2) := allD_get dtX4_parse 41 rfl
theorem dX4_parse_76 : decode cX4_parse 76 = .ok (.sipush 1000, 3) := allD_get dtX4_parse 42 rfl
theorem dX4_parse_79 : decode cX4_parse 79 = .ok (.if_icmp .le 9, 3) := allD_get dtX4_parse 43 rfl
theorem dX4_parse_82 : decode cX4_parse 82 = .ok (.iload 7, 2) := allD_get dtX4_parse 44 rfl
theorem dX4_parse_84 : decode cX4_parse 84 = .ok (.iload 6, 2) := allD_get dtX4_parse 45 rfl
theorem dX4_parse_86 : decode cX4_parse 86 = .ok (.isub, 1) := allD_get dtX4_parse 46 rfl
theorem dX4_parse_87 : decode cX4_parse 87 = .ok (.ireturn, 1) := allD_get dtX4_parse 47 rfl
theorem dX4_parse_88 : decode cX4_parse 88 = .ok (.iload 4, 2) := allD_get dtX4_parse 48 rfl
theorem dX4_parse_90 : decode cX4_parse 90 = .ok (.ifCond .eq 24, 3) := allD_get dtX4_parse 49 rfl
theorem dX4_parse_93 : decode cX4_parse 93 = .ok (.iload 8, 2) := allD_get dtX4_parse 50 rfl
theorem dX4_parse_95 : decode cX4_parse 95 = .ok (.bipush 32, 2) := allD_get dtX4_parse 51 rfl
theorem dX4_parse_97 : decode cX4_parse 97 = .ok (.if_icmp .ne 13, 3) := allD_get dtX4_parse 52 rfl
theorem dX4_parse_100 : decode cX4_parse 100 = .ok (.iload_n 2, 1) := allD_get dtX4_parse 53 rfl
theorem dX4_parse_101 : decode cX4_parse 101 = .ok (.bipush 23, 2) := allD_get dtX4_parse 54 rfl
theorem dX4_parse_103 : decode cX4_parse 103 = .ok (.if_icmp .ge 7, 3) := allD_get dtX4_parse 55 rfl
theorem dX4_parse_106 : decode cX4_parse 106 = .ok (.iconst 1, 1) := allD_get dtX4_parse 56 rfl
theorem dX4_parse_107 : decode cX4_parse 107 = .ok (.goto 19, 3) := allD_get dtX4_parse 57 rfl
theorem dX4_parse_110 : decode cX4_parse 110 = .ok (.iconst 0, 1) := allD_get dtX4_parse 58 rfl
theorem dX4_parse_111 : decode cX4_parse 111 = .ok (.goto 15, 3) := allD_get dtX4_parse 59 rfl
theorem dX4_parse_114 : decode cX4_parse 114 = .ok (.iload 8, 2) := allD_get dtX4_parse 60 rfl
theorem dX4_parse_116 : decode cX4_parse 116 = .ok (.bipush 44, 2) := allD_get dtX4_parse 61 rfl
theorem dX4_parse_118 : decode cX4_parse 118 = .ok (.if_icmp .ne 7, 3) := allD_get dtX4_parse 62 rfl
theorem dX4_parse_121 : decode cX4_parse 121 = .ok (.iconst 1, 1) := allD_get dtX4_parse 63 rfl
theorem dX4_parse_122 : decode cX4_parse 122 = .ok (.goto 4, 3) := allD_get dtX4_parse 64 rfl
theorem dX4_parse_125 : decode cX4_parse 125 = .ok (.iconst 0, 1) := allD_get dtX4_parse 65 rfl
theorem dX4_parse_126 : decode cX4_parse 126 = .ok (.istore 9, 2) := allD_get dtX4_parse 66 rfl
theorem dX4_parse_128 : decode cX4_parse 128 = .ok (.iload 6, 2) := allD_get dtX4_parse 67 rfl
theorem dX4_parse_130 : decode cX4_parse 130 = .ok (.ifCond .eq 8, 3) := allD_get dtX4_parse 68 rfl
theorem dX4_parse_133 : decode cX4_parse 133 = .ok (.iload 9, 2) := allD_get dtX4_parse 69 rfl
theorem dX4_parse_135 : decode cX4_parse 135 = .ok (.ifCond .ne 6, 3) := allD_get dtX4_parse 70 rfl
theorem dX4_parse_138 : decode cX4_parse 138 = .ok (.iload 7, 2) := allD_get dtX4_parse 71 rfl
theorem dX4_parse_140 : decode cX4_parse 140 = .ok (.ireturn, 1) := allD_get dtX4_parse 72 rfl
theorem dX4_parse_141 : decode cX4_parse 141 = .ok (.iload 4, 2) := allD_get dtX4_parse 73 rfl
theorem dX4_parse_143 : decode cX4_parse 143 = .ok (.ifCond .eq 16, 3) := allD_get dtX4_parse 74 rfl
theorem dX4_parse_146 : decode cX4_parse 146 = .ok (.aload_n 1, 1) := allD_get dtX4_parse 75 rfl
theorem dX4_parse_147 : decode cX4_parse 147 = .ok (.iload_n 3, 1) := allD_get dtX4_parse 76 rfl
theorem dX4_parse_148 : decode cX4_parse 148 = .ok (.iload 5, 2) := allD_get dtX4_parse 77 rfl
theorem dX4_parse_150 : decode cX4_parse 150 = .ok (.invokevirtual 28, 3) := allD_get dtX4_parse 78 rfl
theorem dX4_parse_153 : decode cX4_parse 153 = .ok (.iinc 2 1, 3) := allD_get dtX4_parse 79 rfl
theorem dX4_parse_156 : decode cX4_parse 156 = .ok (.goto 6, 3) := allD_get dtX4_parse 80 rfl
theorem dX4_parse_159 : decode cX4_parse 159 = .ok (.iload 5, 2) := allD_get dtX4_parse 81 rfl
theorem dX4_parse_161 : decode cX4_parse 161 = .ok (.istore_n 3, 1) := allD_get dtX4_parse 82 rfl
theorem dX4_parse_162 : decode cX4_parse 162 = .ok (.iload 4, 2) := allD_get dtX4_parse 83 rfl
theorem dX4_parse_164 : decode cX4_parse 164 = .ok (.ifCond .ne 7, 3) := allD_get dtX4_parse 84 rfl
theorem dX4_parse_167 : decode cX4_parse 167 = .ok (.iconst 1, 1) := allD_get dtX4_parse 85 rfl
theorem dX4_parse_168 : decode cX4_parse 168 = .ok (.goto 4, 3) := allD_get dtX4_parse 86 rfl
theorem dX4_parse_171 : decode cX4_parse 171 = .ok (.iconst 0, 1) := allD_get dtX4_parse 87 rfl
theorem dX4_parse_172 : decode cX4_parse 172 = .ok (.istore 4, 2) := allD_get dtX4_parse 88 rfl
theorem dX4_parse_174 : decode cX4_parse 174 = .ok (.iconst 0, 1) := allD_get dtX4_parse 89 rfl
theorem dX4_parse_175 : decode cX4_parse 175 = .ok (.istore 5, 2) := allD_get dtX4_parse 90 rfl
theorem dX4_parse_177 : decode cX4_parse 177 = .ok (.iconst 0, 1) := allD_get dtX4_parse 91 rfl
theorem dX4_parse_178 : decode cX4_parse 178 = .ok (.istore 6, 2) := allD_get dtX4_parse 92 rfl
theorem dX4_parse_180 : decode cX4_parse 180 = .ok (.iinc 7 1, 3) := allD_get dtX4_parse 93 rfl
theorem dX4_parse_183 : decode cX4_parse 183 = .ok (.goto (-163), 3) := allD_get dtX4_parse 94 rfl
theorem dX4_parse_186 : decode cX4_parse 186 = .ok (.iload 5, 2) := allD_get dtX4_parse 95 rfl
theorem dX4_parse_188 : decode cX4_parse 188 = .ok (.sipush 1000, 3) := allD_get dtX4_parse 96 rfl
theorem dX4_parse_191 : decode cX4_parse 191 = .ok (.if_icmp .le 11, 3) := allD_get dtX4_parse 97 rfl
theorem dX4_parse_194 : decode cX4_parse 194 = .ok (.aload_n 0, 1) := allD_get dtX4_parse 98 rfl
theorem dX4_parse_195 : decode cX4_parse 195 = .ok (.getfield 15, 3) := allD_get dtX4_parse 99 rfl
theorem dX4_parse_198 : decode cX4_parse 198 = .ok (.iload 6, 2) := allD_get dtX4_parse 100 rfl
theorem dX4_parse_200 : decode cX4_parse 200 = .ok (.isub, 1) := allD_get dtX4_parse 101 rfl
theorem dX4_parse_201 : decode cX4_parse 201 = .ok (.ireturn, 1) := allD_get dtX4_parse 102 rfl
theorem dX4_parse_202 : decode cX4_parse 202 = .ok (.iload 6, 2) := allD_get dtX4_parse 103 rfl
theorem dX4_parse_204 : decode cX4_parse 204 = .ok (.ifCond .eq 8, 3) := allD_get dtX4_parse 104 rfl
theorem dX4_parse_207 : decode cX4_parse 207 = .ok (.iload 4, 2) := allD_get dtX4_parse 105 rfl
theorem dX4_parse_209 : decode cX4_parse 209 = .ok (.ifCond .ne 8, 3) := allD_get dtX4_parse 106 rfl
theorem dX4_parse_212 : decode cX4_parse 212 = .ok (.aload_n 0, 1) := allD_get dtX4_parse 107 rfl
theorem dX4_parse_213 : decode cX4_parse 213 = .ok (.getfield 15, 3) := allD_get dtX4_parse 108 rfl
theorem dX4_parse_216 : decode cX4_parse 216 = .ok (.ireturn, 1) := allD_get dtX4_parse 109 rfl
theorem dX4_parse_217 : decode cX4_parse 217 = .ok (.aload_n 1, 1) := allD_get dtX4_parse 110 rfl
theorem dX4_parse_218 : decode cX4_parse 218 = .ok (.iload_n 3, 1) := allD_get dtX4_parse 111 rfl
theorem dX4_parse_219 : decode cX4_parse 219 = .ok (.iload 5, 2) := allD_get dtX4_parse 112 rfl
theorem dX4_parse_221 : decode cX4_parse 221 = .ok (.invokevirtual 28, 3) := allD_get dtX4_parse 113 rfl
theorem dX4_parse_224 : decode cX4_parse 224 = .ok (.iconst (-1), 1) := allD_get dtX4_parse 114 rfl
theorem dX4_parse_225 : decode cX4_parse 225 = .ok (.ireturn, 1) := allD_get dtX4_parse 115 rfl
def tbX4_isDigit : List (Nat × Instr × Nat) := [(0, .iload_n 0, 1), (1, .bipush 48, 2), (3, .if_icmp .lt 13, 3), (6, .iload_n 0, 1), (7, .bipush 57, 2), (9, .if_icmp .gt 7, 3), (12, .iconst 1, 1), (13, .goto 4, 3), (16, .iconst 0, 1), (17, .ireturn, 1)]
set_option maxRecDepth 100000 in
theorem dtX4_isDigit : allD cX4_isDigit tbX4_isDigit = true := by decide +kernel
theorem dX4_isDigit_0 : decode cX4_isDigit 0 = .ok (.iload_n 0, 1) := allD_get dtX4_isDigit 0 rfl
theorem dX4_isDigit_1 : decode cX4_isDigit 1 = .ok (.bipush 48, 2) := allD_get dtX4_isDigit 1 rfl
theorem dX4_isDigit_3 : decode cX4_isDigit 3 = .ok (.if_icmp .lt 13, 3) := allD_get dtX4_isDigit 2 rfl
theorem dX4_isDigit_6 : decode cX4_isDigit 6 = .ok (.iload_n 0, 1) := allD_get dtX4_isDigit 3 rfl
theorem dX4_isDigit_7 : decode cX4_isDigit 7 = .ok (.bipush 57, 2) := allD_get dtX4_isDigit 4 rfl
theorem dX4_isDigit_9 : decode cX4_isDigit 9 = .ok (.if_icmp .gt 7, 3) := allD_get dtX4_isDigit 5 rfl
theorem dX4_isDigit_12 : decode cX4_isDigit 12 = .ok (.iconst 1, 1) := allD_get dtX4_isDigit 6 rfl
theorem dX4_isDigit_13 : decode cX4_isDigit 13 = .ok (.goto 4, 3) := allD_get dtX4_isDigit 7 rfl
theorem dX4_isDigit_16 : decode cX4_isDigit 16 = .ok (.iconst 0, 1) := allD_get dtX4_isDigit 8 rfl
theorem dX4_isDigit_17 : decode cX4_isDigit 17 = .ok (.ireturn, 1) := allD_get dtX4_isDigit 9 rfl
