/-! the instructions of the law's methods, by program -/
def tbL_cell_k0 : List (Nat × Instr × Nat) := [(0, .iload_n 1, 1), (1, .aload_n 0, 1), (2, .arraylength, 1), (3, .if_icmp .ge 9, 3), (6, .aload_n 0, 1), (7, .iload_n 1, 1), (8, .iaload, 1), (9, .goto 11, 3), (12, .ldc 7, 2), (14, .iload_n 1, 1), (15, .imul, 1), (16, .sipush 4001, 3), (19, .iadd, 1), (20, .ireturn, 1)]
set_option maxRecDepth 100000 in
theorem dtL_cell_k0 : allD cL_cell tbL_cell_k0 = true := by decide +kernel
theorem dL_cell_0 : decode cL_cell 0 = .ok (.iload_n 1, 1) := allD_get dtL_cell_k0 0 rfl
theorem dL_cell_1 : decode cL_cell 1 = .ok (.aload_n 0, 1) := allD_get dtL_cell_k0 1 rfl
theorem dL_cell_2 : decode cL_cell 2 = .ok (.arraylength, 1) := allD_get dtL_cell_k0 2 rfl
theorem dL_cell_3 : decode cL_cell 3 = .ok (.if_icmp .ge 9, 3) := allD_get dtL_cell_k0 3 rfl
theorem dL_cell_6 : decode cL_cell 6 = .ok (.aload_n 0, 1) := allD_get dtL_cell_k0 4 rfl
theorem dL_cell_7 : decode cL_cell 7 = .ok (.iload_n 1, 1) := allD_get dtL_cell_k0 5 rfl
theorem dL_cell_8 : decode cL_cell 8 = .ok (.iaload, 1) := allD_get dtL_cell_k0 6 rfl
theorem dL_cell_9 : decode cL_cell 9 = .ok (.goto 11, 3) := allD_get dtL_cell_k0 7 rfl
theorem dL_cell_12 : decode cL_cell 12 = .ok (.ldc 7, 2) := allD_get dtL_cell_k0 8 rfl
theorem dL_cell_14 : decode cL_cell 14 = .ok (.iload_n 1, 1) := allD_get dtL_cell_k0 9 rfl
theorem dL_cell_15 : decode cL_cell 15 = .ok (.imul, 1) := allD_get dtL_cell_k0 10 rfl
theorem dL_cell_16 : decode cL_cell 16 = .ok (.sipush 4001, 3) := allD_get dtL_cell_k0 11 rfl
theorem dL_cell_19 : decode cL_cell 19 = .ok (.iadd, 1) := allD_get dtL_cell_k0 12 rfl
theorem dL_cell_20 : decode cL_cell 20 = .ok (.ireturn, 1) := allD_get dtL_cell_k0 13 rfl
def tbL_low_k0 : List (Nat × Instr × Nat) := [(0, .iload_n 0, 1), (1, .ldc 8, 2), (3, .iand, 1), (4, .iload_n 1, 1), (5, .irem, 1), (6, .ireturn, 1)]
set_option maxRecDepth 100000 in
theorem dtL_low_k0 : allD cL_low tbL_low_k0 = true := by decide +kernel
theorem dL_low_0 : decode cL_low 0 = .ok (.iload_n 0, 1) := allD_get dtL_low_k0 0 rfl
theorem dL_low_1 : decode cL_low 1 = .ok (.ldc 8, 2) := allD_get dtL_low_k0 1 rfl
theorem dL_low_3 : decode cL_low 3 = .ok (.iand, 1) := allD_get dtL_low_k0 2 rfl
theorem dL_low_4 : decode cL_low 4 = .ok (.iload_n 1, 1) := allD_get dtL_low_k0 3 rfl
theorem dL_low_5 : decode cL_low 5 = .ok (.irem, 1) := allD_get dtL_low_k0 4 rfl
theorem dL_low_6 : decode cL_low 6 = .ok (.ireturn, 1) := allD_get dtL_low_k0 5 rfl
def tbL_far_k0 : List (Nat × Instr × Nat) := [(0, .iload_n 0, 1), (1, .iload_n 0, 1), (2, .imul, 1), (3, .iload_n 1, 1), (4, .iload_n 1, 1), (5, .imul, 1), (6, .iadd, 1), (7, .ireturn, 1)]
set_option maxRecDepth 100000 in
theorem dtL_far_k0 : allD cL_far tbL_far_k0 = true := by decide +kernel
theorem dL_far_0 : decode cL_far 0 = .ok (.iload_n 0, 1) := allD_get dtL_far_k0 0 rfl
theorem dL_far_1 : decode cL_far 1 = .ok (.iload_n 0, 1) := allD_get dtL_far_k0 1 rfl
theorem dL_far_2 : decode cL_far 2 = .ok (.imul, 1) := allD_get dtL_far_k0 2 rfl
theorem dL_far_3 : decode cL_far 3 = .ok (.iload_n 1, 1) := allD_get dtL_far_k0 3 rfl
theorem dL_far_4 : decode cL_far 4 = .ok (.iload_n 1, 1) := allD_get dtL_far_k0 4 rfl
theorem dL_far_5 : decode cL_far 5 = .ok (.imul, 1) := allD_get dtL_far_k0 5 rfl
theorem dL_far_6 : decode cL_far 6 = .ok (.iadd, 1) := allD_get dtL_far_k0 6 rfl
theorem dL_far_7 : decode cL_far 7 = .ok (.ireturn, 1) := allD_get dtL_far_k0 7 rfl
def tbL_whole_k0 : List (Nat × Instr × Nat) := [(0, .aload_n 0, 1), (1, .iconst 0, 1), (2, .invokevirtual 9, 3), (5, .i2l, 1), (6, .lstore_n 1, 1), (7, .iconst 0, 1), (8, .istore_n 3, 1), (9, .iload_n 3, 1), (10, .aload_n 0, 1), (11, .iconst 0, 1), (12, .invokevirtual 9, 3), (15, .if_icmp .ge 89, 3), (18, .ldc2_w 15, 3), (21, .lload_n 1, 1), (22, .lmul, 1), (23, .aload_n 0, 1), (24, .iload_n 3, 1), (25, .iconst 0, 1), (26, .invokevirtual 17, 3), (29, .i2l, 1), (30, .ladd, 1), (31, .lstore_n 1, 1), (32, .ldc2_w 15, 3), (35, .lload_n 1, 1), (36, .lmul, 1), (37, .aload_n 0, 1), (38, .iload_n 3, 1), (39, .iconst 1, 1), (40, .invokevirtual 17, 3), (43, .i2l, 1), (44, .ladd, 1), (45, .lstore_n 1, 1), (46, .iconst 0, 1), (47, .istore 4, 2), (49, .iload 4, 2), (51, .aload_n 0, 1), (52, .iload_n 3, 1), (53, .iconst 1, 1), (54, .invokevirtual 17, 3), (57, .if_icmp .ge 41, 3), (60, .ldc2_w 21, 3), (63, .lload_n 1, 1), (64, .lmul, 1), (65, .aload_n 0, 1), (66, .iload_n 3, 1), (67, .iload 4, 2), (69, .iconst 0, 1), (70, .invokevirtual 23, 3), (73, .i2l, 1), (74, .ladd, 1), (75, .lstore_n 1, 1), (76, .ldc2_w 21, 3), (79, .lload_n 1, 1), (80, .lmul, 1), (81, .aload_n 0, 1), (82, .iload_n 3, 1), (83, .iload 4, 2), (85, .iconst 1, 1), (86, .invokevirtual 23, 3), (89, .i2l, 1)]
set_option maxRecDepth 100000 in
theorem dtL_whole_k0 : allD cL_whole tbL_whole_k0 = true := by decide +kernel
theorem dL_whole_0 : decode cL_whole 0 = .ok (.aload_n 0, 1) := allD_get dtL_whole_k0 0 rfl
theorem dL_whole_1 : decode cL_whole 1 = .ok (.iconst 0, 1) := allD_get dtL_whole_k0 1 rfl
theorem dL_whole_2 : decode cL_whole 2 = .ok (.invokevirtual 9, 3) := allD_get dtL_whole_k0 2 rfl
theorem dL_whole_5 : decode cL_whole 5 = .ok (.i2l, 1) := allD_get dtL_whole_k0 3 rfl
theorem dL_whole_6 : decode cL_whole 6 = .ok (.lstore_n 1, 1) := allD_get dtL_whole_k0 4 rfl
theorem dL_whole_7 : decode cL_whole 7 = .ok (.iconst 0, 1) := allD_get dtL_whole_k0 5 rfl
theorem dL_whole_8 : decode cL_whole 8 = .ok (.istore_n 3, 1) := allD_get dtL_whole_k0 6 rfl
theorem dL_whole_9 : decode cL_whole 9 = .ok (.iload_n 3, 1) := allD_get dtL_whole_k0 7 rfl
theorem dL_whole_10 : decode cL_whole 10 = .ok (.aload_n 0, 1) := allD_get dtL_whole_k0 8 rfl
theorem dL_whole_11 : decode cL_whole 11 = .ok (.iconst 0, 1) := allD_get dtL_whole_k0 9 rfl
theorem dL_whole_12 : decode cL_whole 12 = .ok (.invokevirtual 9, 3) := allD_get dtL_whole_k0 10 rfl
theorem dL_whole_15 : decode cL_whole 15 = .ok (.if_icmp .ge 89, 3) := allD_get dtL_whole_k0 11 rfl
theorem dL_whole_18 : decode cL_whole 18 = .ok (.ldc2_w 15, 3) := allD_get dtL_whole_k0 12 rfl
theorem dL_whole_21 : decode cL_whole 21 = .ok (.lload_n 1, 1) := allD_get dtL_whole_k0 13 rfl
theorem dL_whole_22 : decode cL_whole 22 = .ok (.lmul, 1) := allD_get dtL_whole_k0 14 rfl
theorem dL_whole_23 : decode cL_whole 23 = .ok (.aload_n 0, 1) := allD_get dtL_whole_k0 15 rfl
theorem dL_whole_24 : decode cL_whole 24 = .ok (.iload_n 3, 1) := allD_get dtL_whole_k0 16 rfl
theorem dL_whole_25 : decode cL_whole 25 = .ok (.iconst 0, 1) := allD_get dtL_whole_k0 17 rfl
theorem dL_whole_26 : decode cL_whole 26 = .ok (.invokevirtual 17, 3) := allD_get dtL_whole_k0 18 rfl
theorem dL_whole_29 : decode cL_whole 29 = .ok (.i2l, 1) := allD_get dtL_whole_k0 19 rfl
theorem dL_whole_30 : decode cL_whole 30 = .ok (.ladd, 1) := allD_get dtL_whole_k0 20 rfl
theorem dL_whole_31 : decode cL_whole 31 = .ok (.lstore_n 1, 1) := allD_get dtL_whole_k0 21 rfl
theorem dL_whole_32 : decode cL_whole 32 = .ok (.ldc2_w 15, 3) := allD_get dtL_whole_k0 22 rfl
theorem dL_whole_35 : decode cL_whole 35 = .ok (.lload_n 1, 1) := allD_get dtL_whole_k0 23 rfl
theorem dL_whole_36 : decode cL_whole 36 = .ok (.lmul, 1) := allD_get dtL_whole_k0 24 rfl
theorem dL_whole_37 : decode cL_whole 37 = .ok (.aload_n 0, 1) := allD_get dtL_whole_k0 25 rfl
theorem dL_whole_38 : decode cL_whole 38 = .ok (.iload_n 3, 1) := allD_get dtL_whole_k0 26 rfl
theorem dL_whole_39 : decode cL_whole 39 = .ok (.iconst 1, 1) := allD_get dtL_whole_k0 27 rfl
theorem dL_whole_40 : decode cL_whole 40 = .ok (.invokevirtual 17, 3) := allD_get dtL_whole_k0 28 rfl
theorem dL_whole_43 : decode cL_whole 43 = .ok (.i2l, 1) := allD_get dtL_whole_k0 29 rfl
theorem dL_whole_44 : decode cL_whole 44 = .ok (.ladd, 1) := allD_get dtL_whole_k0 30 rfl
theorem dL_whole_45 : decode cL_whole 45 = .ok (.lstore_n 1, 1) := allD_get dtL_whole_k0 31 rfl
theorem dL_whole_46 : decode cL_whole 46 = .ok (.iconst 0, 1) := allD_get dtL_whole_k0 32 rfl
theorem dL_whole_47 : decode cL_whole 47 = .ok (.istore 4, 2) := allD_get dtL_whole_k0 33 rfl
theorem dL_whole_49 : decode cL_whole 49 = .ok (.iload 4, 2) := allD_get dtL_whole_k0 34 rfl
theorem dL_whole_51 : decode cL_whole 51 = .ok (.aload_n 0, 1) := allD_get dtL_whole_k0 35 rfl
theorem dL_whole_52 : decode cL_whole 52 = .ok (.iload_n 3, 1) := allD_get dtL_whole_k0 36 rfl
theorem dL_whole_53 : decode cL_whole 53 = .ok (.iconst 1, 1) := allD_get dtL_whole_k0 37 rfl
theorem dL_whole_54 : decode cL_whole 54 = .ok (.invokevirtual 17, 3) := allD_get dtL_whole_k0 38 rfl
theorem dL_whole_57 : decode cL_whole 57 = .ok (.if_icmp .ge 41, 3) := allD_get dtL_whole_k0 39 rfl
theorem dL_whole_60 : decode cL_whole 60 = .ok (.ldc2_w 21, 3) := allD_get dtL_whole_k0 40 rfl
theorem dL_whole_63 : decode cL_whole 63 = .ok (.lload_n 1, 1) := allD_get dtL_whole_k0 41 rfl
theorem dL_whole_64 : decode cL_whole 64 = .ok (.lmul, 1) := allD_get dtL_whole_k0 42 rfl
theorem dL_whole_65 : decode cL_whole 65 = .ok (.aload_n 0, 1) := allD_get dtL_whole_k0 43 rfl
theorem dL_whole_66 : decode cL_whole 66 = .ok (.iload_n 3, 1) := allD_get dtL_whole_k0 44 rfl
theorem dL_whole_67 : decode cL_whole 67 = .ok (.iload 4, 2) := allD_get dtL_whole_k0 45 rfl
theorem dL_whole_69 : decode cL_whole 69 = .ok (.iconst 0, 1) := allD_get dtL_whole_k0 46 rfl
theorem dL_whole_70 : decode cL_whole 70 = .ok (.invokevirtual 23, 3) := allD_get dtL_whole_k0 47 rfl
theorem dL_whole_73 : decode cL_whole 73 = .ok (.i2l, 1) := allD_get dtL_whole_k0 48 rfl
theorem dL_whole_74 : decode cL_whole 74 = .ok (.ladd, 1) := allD_get dtL_whole_k0 49 rfl
theorem dL_whole_75 : decode cL_whole 75 = .ok (.lstore_n 1, 1) := allD_get dtL_whole_k0 50 rfl
theorem dL_whole_76 : decode cL_whole 76 = .ok (.ldc2_w 21, 3) := allD_get dtL_whole_k0 51 rfl
theorem dL_whole_79 : decode cL_whole 79 = .ok (.lload_n 1, 1) := allD_get dtL_whole_k0 52 rfl
theorem dL_whole_80 : decode cL_whole 80 = .ok (.lmul, 1) := allD_get dtL_whole_k0 53 rfl
theorem dL_whole_81 : decode cL_whole 81 = .ok (.aload_n 0, 1) := allD_get dtL_whole_k0 54 rfl
theorem dL_whole_82 : decode cL_whole 82 = .ok (.iload_n 3, 1) := allD_get dtL_whole_k0 55 rfl
theorem dL_whole_83 : decode cL_whole 83 = .ok (.iload 4, 2) := allD_get dtL_whole_k0 56 rfl
theorem dL_whole_85 : decode cL_whole 85 = .ok (.iconst 1, 1) := allD_get dtL_whole_k0 57 rfl
theorem dL_whole_86 : decode cL_whole 86 = .ok (.invokevirtual 23, 3) := allD_get dtL_whole_k0 58 rfl
theorem dL_whole_89 : decode cL_whole 89 = .ok (.i2l, 1) := allD_get dtL_whole_k0 59 rfl
def tbL_whole_k1 : List (Nat × Instr × Nat) := [(90, .ladd, 1), (91, .lstore_n 1, 1), (92, .iinc 4 1, 3), (95, .goto (-46), 3), (98, .iinc 3 1, 3), (101, .goto (-92), 3), (104, .lload_n 1, 1), (105, .lreturn, 1)]
set_option maxRecDepth 100000 in
theorem dtL_whole_k1 : allD cL_whole tbL_whole_k1 = true := by decide +kernel
theorem dL_whole_90 : decode cL_whole 90 = .ok (.ladd, 1) := allD_get dtL_whole_k1 0 rfl
theorem dL_whole_91 : decode cL_whole 91 = .ok (.lstore_n 1, 1) := allD_get dtL_whole_k1 1 rfl
theorem dL_whole_92 : decode cL_whole 92 = .ok (.iinc 4 1, 3) := allD_get dtL_whole_k1 2 rfl
theorem dL_whole_95 : decode cL_whole 95 = .ok (.goto (-46), 3) := allD_get dtL_whole_k1 3 rfl
theorem dL_whole_98 : decode cL_whole 98 = .ok (.iinc 3 1, 3) := allD_get dtL_whole_k1 4 rfl
theorem dL_whole_101 : decode cL_whole 101 = .ok (.goto (-92), 3) := allD_get dtL_whole_k1 5 rfl
theorem dL_whole_104 : decode cL_whole 104 = .ok (.lload_n 1, 1) := allD_get dtL_whole_k1 6 rfl
theorem dL_whole_105 : decode cL_whole 105 = .ok (.lreturn, 1) := allD_get dtL_whole_k1 7 rfl
def tbL_strokes_k0 : List (Nat × Instr × Nat) := [(0, .iconst 0, 1), (1, .istore_n 1, 1), (2, .iconst 0, 1), (3, .istore_n 2, 1), (4, .iconst 0, 1), (5, .istore_n 3, 1), (6, .iload_n 3, 1), (7, .aload_n 0, 1), (8, .iconst 0, 1), (9, .invokevirtual 9, 3), (12, .if_icmp .ge 385, 3), (15, .aload_n 0, 1), (16, .iload_n 3, 1), (17, .iconst 1, 1), (18, .invokevirtual 17, 3), (21, .istore 4, 2), (23, .sipush 2000, 3), (26, .istore 5, 2), (28, .iconst (-1), 1), (29, .istore 6, 2), (31, .sipush 2000, 3), (34, .istore 7, 2), (36, .iconst (-1), 1), (37, .istore 8, 2), (39, .iconst 0, 1), (40, .istore 9, 2), (42, .iconst 0, 1), (43, .istore 10, 2), (45, .iload 10, 2), (47, .iload 4, 2), (49, .if_icmp .ge 199, 3), (52, .aload_n 0, 1), (53, .iload_n 3, 1), (54, .iload 10, 2), (56, .iconst 0, 1), (57, .invokevirtual 23, 3), (60, .istore 11, 2), (62, .aload_n 0, 1), (63, .iload_n 3, 1), (64, .iload 10, 2), (66, .iconst 1, 1), (67, .invokevirtual 23, 3), (70, .istore 12, 2), (72, .iload 11, 2), (74, .iload 5, 2), (76, .if_icmp .ge 8, 3), (79, .iload 11, 2), (81, .goto 5, 3), (84, .iload 5, 2), (86, .istore 5, 2), (88, .iload 11, 2), (90, .iload 6, 2), (92, .if_icmp .le 8, 3), (95, .iload 11, 2), (97, .goto 5, 3), (100, .iload 6, 2), (102, .istore 6, 2), (104, .iload 12, 2), (106, .iload 7, 2), (108, .if_icmp .ge 8, 3)]
set_option maxRecDepth 100000 in
theorem dtL_strokes_k0 : allD cL_strokes tbL_strokes_k0 = true := by decide +kernel
theorem dL_strokes_0 : decode cL_strokes 0 = .ok (.iconst 0, 1) := allD_get dtL_strokes_k0 0 rfl
theorem dL_strokes_1 : decode cL_strokes 1 = .ok (.istore_n 1, 1) := allD_get dtL_strokes_k0 1 rfl
theorem dL_strokes_2 : decode cL_strokes 2 = .ok (.iconst 0, 1) := allD_get dtL_strokes_k0 2 rfl
theorem dL_strokes_3 : decode cL_strokes 3 = .ok (.istore_n 2, 1) := allD_get dtL_strokes_k0 3 rfl
theorem dL_strokes_4 : decode cL_strokes 4 = .ok (.iconst 0, 1) := allD_get dtL_strokes_k0 4 rfl
theorem dL_strokes_5 : decode cL_strokes 5 = .ok (.istore_n 3, 1) := allD_get dtL_strokes_k0 5 rfl
theorem dL_strokes_6 : decode cL_strokes 6 = .ok (.iload_n 3, 1) := allD_get dtL_strokes_k0 6 rfl
theorem dL_strokes_7 : decode cL_strokes 7 = .ok (.aload_n 0, 1) := allD_get dtL_strokes_k0 7 rfl
theorem dL_strokes_8 : decode cL_strokes 8 = .ok (.iconst 0, 1) := allD_get dtL_strokes_k0 8 rfl
theorem dL_strokes_9 : decode cL_strokes 9 = .ok (.invokevirtual 9, 3) := allD_get dtL_strokes_k0 9 rfl
theorem dL_strokes_12 : decode cL_strokes 12 = .ok (.if_icmp .ge 385, 3) := allD_get dtL_strokes_k0 10 rfl
theorem dL_strokes_15 : decode cL_strokes 15 = .ok (.aload_n 0, 1) := allD_get dtL_strokes_k0 11 rfl
theorem dL_strokes_16 : decode cL_strokes 16 = .ok (.iload_n 3, 1) := allD_get dtL_strokes_k0 12 rfl
theorem dL_strokes_17 : decode cL_strokes 17 = .ok (.iconst 1, 1) := allD_get dtL_strokes_k0 13 rfl
theorem dL_strokes_18 : decode cL_strokes 18 = .ok (.invokevirtual 17, 3) := allD_get dtL_strokes_k0 14 rfl
theorem dL_strokes_21 : decode cL_strokes 21 = .ok (.istore 4, 2) := allD_get dtL_strokes_k0 15 rfl
theorem dL_strokes_23 : decode cL_strokes 23 = .ok (.sipush 2000, 3) := allD_get dtL_strokes_k0 16 rfl
theorem dL_strokes_26 : decode cL_strokes 26 = .ok (.istore 5, 2) := allD_get dtL_strokes_k0 17 rfl
theorem dL_strokes_28 : decode cL_strokes 28 = .ok (.iconst (-1), 1) := allD_get dtL_strokes_k0 18 rfl
theorem dL_strokes_29 : decode cL_strokes 29 = .ok (.istore 6, 2) := allD_get dtL_strokes_k0 19 rfl
theorem dL_strokes_31 : decode cL_strokes 31 = .ok (.sipush 2000, 3) := allD_get dtL_strokes_k0 20 rfl
theorem dL_strokes_34 : decode cL_strokes 34 = .ok (.istore 7, 2) := allD_get dtL_strokes_k0 21 rfl
theorem dL_strokes_36 : decode cL_strokes 36 = .ok (.iconst (-1), 1) := allD_get dtL_strokes_k0 22 rfl
theorem dL_strokes_37 : decode cL_strokes 37 = .ok (.istore 8, 2) := allD_get dtL_strokes_k0 23 rfl
theorem dL_strokes_39 : decode cL_strokes 39 = .ok (.iconst 0, 1) := allD_get dtL_strokes_k0 24 rfl
theorem dL_strokes_40 : decode cL_strokes 40 = .ok (.istore 9, 2) := allD_get dtL_strokes_k0 25 rfl
theorem dL_strokes_42 : decode cL_strokes 42 = .ok (.iconst 0, 1) := allD_get dtL_strokes_k0 26 rfl
theorem dL_strokes_43 : decode cL_strokes 43 = .ok (.istore 10, 2) := allD_get dtL_strokes_k0 27 rfl
theorem dL_strokes_45 : decode cL_strokes 45 = .ok (.iload 10, 2) := allD_get dtL_strokes_k0 28 rfl
theorem dL_strokes_47 : decode cL_strokes 47 = .ok (.iload 4, 2) := allD_get dtL_strokes_k0 29 rfl
theorem dL_strokes_49 : decode cL_strokes 49 = .ok (.if_icmp .ge 199, 3) := allD_get dtL_strokes_k0 30 rfl
theorem dL_strokes_52 : decode cL_strokes 52 = .ok (.aload_n 0, 1) := allD_get dtL_strokes_k0 31 rfl
theorem dL_strokes_53 : decode cL_strokes 53 = .ok (.iload_n 3, 1) := allD_get dtL_strokes_k0 32 rfl
theorem dL_strokes_54 : decode cL_strokes 54 = .ok (.iload 10, 2) := allD_get dtL_strokes_k0 33 rfl
theorem dL_strokes_56 : decode cL_strokes 56 = .ok (.iconst 0, 1) := allD_get dtL_strokes_k0 34 rfl
theorem dL_strokes_57 : decode cL_strokes 57 = .ok (.invokevirtual 23, 3) := allD_get dtL_strokes_k0 35 rfl
theorem dL_strokes_60 : decode cL_strokes 60 = .ok (.istore 11, 2) := allD_get dtL_strokes_k0 36 rfl
theorem dL_strokes_62 : decode cL_strokes 62 = .ok (.aload_n 0, 1) := allD_get dtL_strokes_k0 37 rfl
theorem dL_strokes_63 : decode cL_strokes 63 = .ok (.iload_n 3, 1) := allD_get dtL_strokes_k0 38 rfl
theorem dL_strokes_64 : decode cL_strokes 64 = .ok (.iload 10, 2) := allD_get dtL_strokes_k0 39 rfl
theorem dL_strokes_66 : decode cL_strokes 66 = .ok (.iconst 1, 1) := allD_get dtL_strokes_k0 40 rfl
theorem dL_strokes_67 : decode cL_strokes 67 = .ok (.invokevirtual 23, 3) := allD_get dtL_strokes_k0 41 rfl
theorem dL_strokes_70 : decode cL_strokes 70 = .ok (.istore 12, 2) := allD_get dtL_strokes_k0 42 rfl
theorem dL_strokes_72 : decode cL_strokes 72 = .ok (.iload 11, 2) := allD_get dtL_strokes_k0 43 rfl
theorem dL_strokes_74 : decode cL_strokes 74 = .ok (.iload 5, 2) := allD_get dtL_strokes_k0 44 rfl
theorem dL_strokes_76 : decode cL_strokes 76 = .ok (.if_icmp .ge 8, 3) := allD_get dtL_strokes_k0 45 rfl
theorem dL_strokes_79 : decode cL_strokes 79 = .ok (.iload 11, 2) := allD_get dtL_strokes_k0 46 rfl
theorem dL_strokes_81 : decode cL_strokes 81 = .ok (.goto 5, 3) := allD_get dtL_strokes_k0 47 rfl
theorem dL_strokes_84 : decode cL_strokes 84 = .ok (.iload 5, 2) := allD_get dtL_strokes_k0 48 rfl
theorem dL_strokes_86 : decode cL_strokes 86 = .ok (.istore 5, 2) := allD_get dtL_strokes_k0 49 rfl
theorem dL_strokes_88 : decode cL_strokes 88 = .ok (.iload 11, 2) := allD_get dtL_strokes_k0 50 rfl
theorem dL_strokes_90 : decode cL_strokes 90 = .ok (.iload 6, 2) := allD_get dtL_strokes_k0 51 rfl
theorem dL_strokes_92 : decode cL_strokes 92 = .ok (.if_icmp .le 8, 3) := allD_get dtL_strokes_k0 52 rfl
theorem dL_strokes_95 : decode cL_strokes 95 = .ok (.iload 11, 2) := allD_get dtL_strokes_k0 53 rfl
theorem dL_strokes_97 : decode cL_strokes 97 = .ok (.goto 5, 3) := allD_get dtL_strokes_k0 54 rfl
theorem dL_strokes_100 : decode cL_strokes 100 = .ok (.iload 6, 2) := allD_get dtL_strokes_k0 55 rfl
theorem dL_strokes_102 : decode cL_strokes 102 = .ok (.istore 6, 2) := allD_get dtL_strokes_k0 56 rfl
theorem dL_strokes_104 : decode cL_strokes 104 = .ok (.iload 12, 2) := allD_get dtL_strokes_k0 57 rfl
theorem dL_strokes_106 : decode cL_strokes 106 = .ok (.iload 7, 2) := allD_get dtL_strokes_k0 58 rfl
theorem dL_strokes_108 : decode cL_strokes 108 = .ok (.if_icmp .ge 8, 3) := allD_get dtL_strokes_k0 59 rfl
def tbL_strokes_k1 : List (Nat × Instr × Nat) := [(111, .iload 12, 2), (113, .goto 5, 3), (116, .iload 7, 2), (118, .istore 7, 2), (120, .iload 12, 2), (122, .iload 8, 2), (124, .if_icmp .le 8, 3), (127, .iload 12, 2), (129, .goto 5, 3), (132, .iload 8, 2), (134, .istore 8, 2), (136, .iload 10, 2), (138, .ifCond .le 104, 3), (141, .bipush 100, 2), (143, .iload 11, 2), (145, .aload_n 0, 1), (146, .iload_n 3, 1), (147, .iload 10, 2), (149, .iconst 1, 1), (150, .isub, 1), (151, .iconst 0, 1), (152, .invokevirtual 23, 3), (155, .isub, 1), (156, .iload 12, 2), (158, .aload_n 0, 1), (159, .iload_n 3, 1), (160, .iload 10, 2), (162, .iconst 1, 1), (163, .isub, 1), (164, .iconst 1, 1), (165, .invokevirtual 23, 3), (168, .isub, 1), (169, .invokestatic 27, 3), (172, .imul, 1), (173, .istore 13, 2), (175, .iconst 0, 1), (176, .istore 14, 2), (178, .sipush 16384, 3), (181, .istore 15, 2), (183, .iload 15, 2), (185, .ifCond .le 43, 3), (188, .iload 14, 2), (190, .iload 14, 2), (192, .iload 15, 2), (194, .iadd, 1), (195, .i2l, 1), (196, .iload 14, 2), (198, .iload 15, 2), (200, .iadd, 1), (201, .i2l, 1), (202, .lmul, 1), (203, .iload 13, 2), (205, .i2l, 1), (206, .lcmp, 1), (207, .ifCond .gt 8, 3), (210, .iload 15, 2), (212, .goto 4, 3), (215, .iconst 0, 1), (216, .iadd, 1), (217, .istore 14, 2)]
set_option maxRecDepth 100000 in
theorem dtL_strokes_k1 : allD cL_strokes tbL_strokes_k1 = true := by decide +kernel
theorem dL_strokes_111 : decode cL_strokes 111 = .ok (.iload 12, 2) := allD_get dtL_strokes_k1 0 rfl
theorem dL_strokes_113 : decode cL_strokes 113 = .ok (.goto 5, 3) := allD_get dtL_strokes_k1 1 rfl
theorem dL_strokes_116 : decode cL_strokes 116 = .ok (.iload 7, 2) := allD_get dtL_strokes_k1 2 rfl
theorem dL_strokes_118 : decode cL_strokes 118 = .ok (.istore 7, 2) := allD_get dtL_strokes_k1 3 rfl
theorem dL_strokes_120 : decode cL_strokes 120 = .ok (.iload 12, 2) := allD_get dtL_strokes_k1 4 rfl
theorem dL_strokes_122 : decode cL_strokes 122 = .ok (.iload 8, 2) := allD_get dtL_strokes_k1 5 rfl
theorem dL_strokes_124 : decode cL_strokes 124 = .ok (.if_icmp .le 8, 3) := allD_get dtL_strokes_k1 6 rfl
theorem dL_strokes_127 : decode cL_strokes 127 = .ok (.iload 12, 2) := allD_get dtL_strokes_k1 7 rfl
theorem dL_strokes_129 : decode cL_strokes 129 = .ok (.goto 5, 3) := allD_get dtL_strokes_k1 8 rfl
theorem dL_strokes_132 : decode cL_strokes 132 = .ok (.iload 8, 2) := allD_get dtL_strokes_k1 9 rfl
theorem dL_strokes_134 : decode cL_strokes 134 = .ok (.istore 8, 2) := allD_get dtL_strokes_k1 10 rfl
theorem dL_strokes_136 : decode cL_strokes 136 = .ok (.iload 10, 2) := allD_get dtL_strokes_k1 11 rfl
theorem dL_strokes_138 : decode cL_strokes 138 = .ok (.ifCond .le 104, 3) := allD_get dtL_strokes_k1 12 rfl
theorem dL_strokes_141 : decode cL_strokes 141 = .ok (.bipush 100, 2) := allD_get dtL_strokes_k1 13 rfl
theorem dL_strokes_143 : decode cL_strokes 143 = .ok (.iload 11, 2) := allD_get dtL_strokes_k1 14 rfl
theorem dL_strokes_145 : decode cL_strokes 145 = .ok (.aload_n 0, 1) := allD_get dtL_strokes_k1 15 rfl
theorem dL_strokes_146 : decode cL_strokes 146 = .ok (.iload_n 3, 1) := allD_get dtL_strokes_k1 16 rfl
theorem dL_strokes_147 : decode cL_strokes 147 = .ok (.iload 10, 2) := allD_get dtL_strokes_k1 17 rfl
theorem dL_strokes_149 : decode cL_strokes 149 = .ok (.iconst 1, 1) := allD_get dtL_strokes_k1 18 rfl
theorem dL_strokes_150 : decode cL_strokes 150 = .ok (.isub, 1) := allD_get dtL_strokes_k1 19 rfl
theorem dL_strokes_151 : decode cL_strokes 151 = .ok (.iconst 0, 1) := allD_get dtL_strokes_k1 20 rfl
theorem dL_strokes_152 : decode cL_strokes 152 = .ok (.invokevirtual 23, 3) := allD_get dtL_strokes_k1 21 rfl
theorem dL_strokes_155 : decode cL_strokes 155 = .ok (.isub, 1) := allD_get dtL_strokes_k1 22 rfl
theorem dL_strokes_156 : decode cL_strokes 156 = .ok (.iload 12, 2) := allD_get dtL_strokes_k1 23 rfl
theorem dL_strokes_158 : decode cL_strokes 158 = .ok (.aload_n 0, 1) := allD_get dtL_strokes_k1 24 rfl
theorem dL_strokes_159 : decode cL_strokes 159 = .ok (.iload_n 3, 1) := allD_get dtL_strokes_k1 25 rfl
theorem dL_strokes_160 : decode cL_strokes 160 = .ok (.iload 10, 2) := allD_get dtL_strokes_k1 26 rfl
theorem dL_strokes_162 : decode cL_strokes 162 = .ok (.iconst 1, 1) := allD_get dtL_strokes_k1 27 rfl
theorem dL_strokes_163 : decode cL_strokes 163 = .ok (.isub, 1) := allD_get dtL_strokes_k1 28 rfl
theorem dL_strokes_164 : decode cL_strokes 164 = .ok (.iconst 1, 1) := allD_get dtL_strokes_k1 29 rfl
theorem dL_strokes_165 : decode cL_strokes 165 = .ok (.invokevirtual 23, 3) := allD_get dtL_strokes_k1 30 rfl
theorem dL_strokes_168 : decode cL_strokes 168 = .ok (.isub, 1) := allD_get dtL_strokes_k1 31 rfl
theorem dL_strokes_169 : decode cL_strokes 169 = .ok (.invokestatic 27, 3) := allD_get dtL_strokes_k1 32 rfl
theorem dL_strokes_172 : decode cL_strokes 172 = .ok (.imul, 1) := allD_get dtL_strokes_k1 33 rfl
theorem dL_strokes_173 : decode cL_strokes 173 = .ok (.istore 13, 2) := allD_get dtL_strokes_k1 34 rfl
theorem dL_strokes_175 : decode cL_strokes 175 = .ok (.iconst 0, 1) := allD_get dtL_strokes_k1 35 rfl
theorem dL_strokes_176 : decode cL_strokes 176 = .ok (.istore 14, 2) := allD_get dtL_strokes_k1 36 rfl
theorem dL_strokes_178 : decode cL_strokes 178 = .ok (.sipush 16384, 3) := allD_get dtL_strokes_k1 37 rfl
theorem dL_strokes_181 : decode cL_strokes 181 = .ok (.istore 15, 2) := allD_get dtL_strokes_k1 38 rfl
theorem dL_strokes_183 : decode cL_strokes 183 = .ok (.iload 15, 2) := allD_get dtL_strokes_k1 39 rfl
theorem dL_strokes_185 : decode cL_strokes 185 = .ok (.ifCond .le 43, 3) := allD_get dtL_strokes_k1 40 rfl
theorem dL_strokes_188 : decode cL_strokes 188 = .ok (.iload 14, 2) := allD_get dtL_strokes_k1 41 rfl
theorem dL_strokes_190 : decode cL_strokes 190 = .ok (.iload 14, 2) := allD_get dtL_strokes_k1 42 rfl
theorem dL_strokes_192 : decode cL_strokes 192 = .ok (.iload 15, 2) := allD_get dtL_strokes_k1 43 rfl
theorem dL_strokes_194 : decode cL_strokes 194 = .ok (.iadd, 1) := allD_get dtL_strokes_k1 44 rfl
theorem dL_strokes_195 : decode cL_strokes 195 = .ok (.i2l, 1) := allD_get dtL_strokes_k1 45 rfl
theorem dL_strokes_196 : decode cL_strokes 196 = .ok (.iload 14, 2) := allD_get dtL_strokes_k1 46 rfl
theorem dL_strokes_198 : decode cL_strokes 198 = .ok (.iload 15, 2) := allD_get dtL_strokes_k1 47 rfl
theorem dL_strokes_200 : decode cL_strokes 200 = .ok (.iadd, 1) := allD_get dtL_strokes_k1 48 rfl
theorem dL_strokes_201 : decode cL_strokes 201 = .ok (.i2l, 1) := allD_get dtL_strokes_k1 49 rfl
theorem dL_strokes_202 : decode cL_strokes 202 = .ok (.lmul, 1) := allD_get dtL_strokes_k1 50 rfl
theorem dL_strokes_203 : decode cL_strokes 203 = .ok (.iload 13, 2) := allD_get dtL_strokes_k1 51 rfl
theorem dL_strokes_205 : decode cL_strokes 205 = .ok (.i2l, 1) := allD_get dtL_strokes_k1 52 rfl
theorem dL_strokes_206 : decode cL_strokes 206 = .ok (.lcmp, 1) := allD_get dtL_strokes_k1 53 rfl
theorem dL_strokes_207 : decode cL_strokes 207 = .ok (.ifCond .gt 8, 3) := allD_get dtL_strokes_k1 54 rfl
theorem dL_strokes_210 : decode cL_strokes 210 = .ok (.iload 15, 2) := allD_get dtL_strokes_k1 55 rfl
theorem dL_strokes_212 : decode cL_strokes 212 = .ok (.goto 4, 3) := allD_get dtL_strokes_k1 56 rfl
theorem dL_strokes_215 : decode cL_strokes 215 = .ok (.iconst 0, 1) := allD_get dtL_strokes_k1 57 rfl
theorem dL_strokes_216 : decode cL_strokes 216 = .ok (.iadd, 1) := allD_get dtL_strokes_k1 58 rfl
theorem dL_strokes_217 : decode cL_strokes 217 = .ok (.istore 14, 2) := allD_get dtL_strokes_k1 59 rfl
def tbL_strokes_k2 : List (Nat × Instr × Nat) := [(219, .iload 15, 2), (221, .iconst 2, 1), (222, .idiv, 1), (223, .istore 15, 2), (225, .goto (-42), 3), (228, .iload 9, 2), (230, .iload 14, 2), (232, .iadd, 1), (233, .istore 9, 2), (235, .iload 13, 2), (237, .ifCond .ne 5, 3), (240, .iconst 0, 1), (241, .ireturn, 1), (242, .iinc 10 1, 3), (245, .goto (-200), 3), (248, .iload_n 1, 1), (249, .iload 4, 2), (251, .iadd, 1), (252, .istore_n 1, 1), (253, .iload_n 2, 1), (254, .iload 9, 2), (256, .iadd, 1), (257, .istore_n 2, 1), (258, .iload 4, 2), (260, .iconst 1, 1), (261, .if_icmp .lt 128, 3), (264, .iload 4, 2), (266, .bipush 24, 2), (268, .if_icmp .gt 121, 3), (271, .iload 5, 2), (273, .ifCond .lt 116, 3), (276, .iload 6, 2), (278, .sipush 1000, 3), (281, .if_icmp .gt 108, 3), (284, .iload 7, 2), (286, .ifCond .lt 103, 3), (289, .iload 8, 2), (291, .sipush 1000, 3), (294, .if_icmp .gt 95, 3), (297, .aload_n 0, 1), (298, .iload_n 3, 1), (299, .iconst 2, 1), (300, .invokevirtual 17, 3), (303, .iload 5, 2), (305, .if_icmp .ne 84, 3), (308, .aload_n 0, 1), (309, .iload_n 3, 1), (310, .iconst 3, 1), (311, .invokevirtual 17, 3), (314, .iload 6, 2), (316, .if_icmp .ne 73, 3), (319, .aload_n 0, 1), (320, .iload_n 3, 1), (321, .iconst 4, 1), (322, .invokevirtual 17, 3), (325, .iload 7, 2), (327, .if_icmp .ne 62, 3), (330, .aload_n 0, 1), (331, .iload_n 3, 1), (332, .iconst 5, 1)]
set_option maxRecDepth 100000 in
theorem dtL_strokes_k2 : allD cL_strokes tbL_strokes_k2 = true := by decide +kernel
theorem dL_strokes_219 : decode cL_strokes 219 = .ok (.iload 15, 2) := allD_get dtL_strokes_k2 0 rfl
theorem dL_strokes_221 : decode cL_strokes 221 = .ok (.iconst 2, 1) := allD_get dtL_strokes_k2 1 rfl
theorem dL_strokes_222 : decode cL_strokes 222 = .ok (.idiv, 1) := allD_get dtL_strokes_k2 2 rfl
theorem dL_strokes_223 : decode cL_strokes 223 = .ok (.istore 15, 2) := allD_get dtL_strokes_k2 3 rfl
theorem dL_strokes_225 : decode cL_strokes 225 = .ok (.goto (-42), 3) := allD_get dtL_strokes_k2 4 rfl
theorem dL_strokes_228 : decode cL_strokes 228 = .ok (.iload 9, 2) := allD_get dtL_strokes_k2 5 rfl
theorem dL_strokes_230 : decode cL_strokes 230 = .ok (.iload 14, 2) := allD_get dtL_strokes_k2 6 rfl
theorem dL_strokes_232 : decode cL_strokes 232 = .ok (.iadd, 1) := allD_get dtL_strokes_k2 7 rfl
theorem dL_strokes_233 : decode cL_strokes 233 = .ok (.istore 9, 2) := allD_get dtL_strokes_k2 8 rfl
theorem dL_strokes_235 : decode cL_strokes 235 = .ok (.iload 13, 2) := allD_get dtL_strokes_k2 9 rfl
theorem dL_strokes_237 : decode cL_strokes 237 = .ok (.ifCond .ne 5, 3) := allD_get dtL_strokes_k2 10 rfl
theorem dL_strokes_240 : decode cL_strokes 240 = .ok (.iconst 0, 1) := allD_get dtL_strokes_k2 11 rfl
theorem dL_strokes_241 : decode cL_strokes 241 = .ok (.ireturn, 1) := allD_get dtL_strokes_k2 12 rfl
theorem dL_strokes_242 : decode cL_strokes 242 = .ok (.iinc 10 1, 3) := allD_get dtL_strokes_k2 13 rfl
theorem dL_strokes_245 : decode cL_strokes 245 = .ok (.goto (-200), 3) := allD_get dtL_strokes_k2 14 rfl
theorem dL_strokes_248 : decode cL_strokes 248 = .ok (.iload_n 1, 1) := allD_get dtL_strokes_k2 15 rfl
theorem dL_strokes_249 : decode cL_strokes 249 = .ok (.iload 4, 2) := allD_get dtL_strokes_k2 16 rfl
theorem dL_strokes_251 : decode cL_strokes 251 = .ok (.iadd, 1) := allD_get dtL_strokes_k2 17 rfl
theorem dL_strokes_252 : decode cL_strokes 252 = .ok (.istore_n 1, 1) := allD_get dtL_strokes_k2 18 rfl
theorem dL_strokes_253 : decode cL_strokes 253 = .ok (.iload_n 2, 1) := allD_get dtL_strokes_k2 19 rfl
theorem dL_strokes_254 : decode cL_strokes 254 = .ok (.iload 9, 2) := allD_get dtL_strokes_k2 20 rfl
theorem dL_strokes_256 : decode cL_strokes 256 = .ok (.iadd, 1) := allD_get dtL_strokes_k2 21 rfl
theorem dL_strokes_257 : decode cL_strokes 257 = .ok (.istore_n 2, 1) := allD_get dtL_strokes_k2 22 rfl
theorem dL_strokes_258 : decode cL_strokes 258 = .ok (.iload 4, 2) := allD_get dtL_strokes_k2 23 rfl
theorem dL_strokes_260 : decode cL_strokes 260 = .ok (.iconst 1, 1) := allD_get dtL_strokes_k2 24 rfl
theorem dL_strokes_261 : decode cL_strokes 261 = .ok (.if_icmp .lt 128, 3) := allD_get dtL_strokes_k2 25 rfl
theorem dL_strokes_264 : decode cL_strokes 264 = .ok (.iload 4, 2) := allD_get dtL_strokes_k2 26 rfl
theorem dL_strokes_266 : decode cL_strokes 266 = .ok (.bipush 24, 2) := allD_get dtL_strokes_k2 27 rfl
theorem dL_strokes_268 : decode cL_strokes 268 = .ok (.if_icmp .gt 121, 3) := allD_get dtL_strokes_k2 28 rfl
theorem dL_strokes_271 : decode cL_strokes 271 = .ok (.iload 5, 2) := allD_get dtL_strokes_k2 29 rfl
theorem dL_strokes_273 : decode cL_strokes 273 = .ok (.ifCond .lt 116, 3) := allD_get dtL_strokes_k2 30 rfl
theorem dL_strokes_276 : decode cL_strokes 276 = .ok (.iload 6, 2) := allD_get dtL_strokes_k2 31 rfl
theorem dL_strokes_278 : decode cL_strokes 278 = .ok (.sipush 1000, 3) := allD_get dtL_strokes_k2 32 rfl
theorem dL_strokes_281 : decode cL_strokes 281 = .ok (.if_icmp .gt 108, 3) := allD_get dtL_strokes_k2 33 rfl
theorem dL_strokes_284 : decode cL_strokes 284 = .ok (.iload 7, 2) := allD_get dtL_strokes_k2 34 rfl
theorem dL_strokes_286 : decode cL_strokes 286 = .ok (.ifCond .lt 103, 3) := allD_get dtL_strokes_k2 35 rfl
theorem dL_strokes_289 : decode cL_strokes 289 = .ok (.iload 8, 2) := allD_get dtL_strokes_k2 36 rfl
theorem dL_strokes_291 : decode cL_strokes 291 = .ok (.sipush 1000, 3) := allD_get dtL_strokes_k2 37 rfl
theorem dL_strokes_294 : decode cL_strokes 294 = .ok (.if_icmp .gt 95, 3) := allD_get dtL_strokes_k2 38 rfl
theorem dL_strokes_297 : decode cL_strokes 297 = .ok (.aload_n 0, 1) := allD_get dtL_strokes_k2 39 rfl
theorem dL_strokes_298 : decode cL_strokes 298 = .ok (.iload_n 3, 1) := allD_get dtL_strokes_k2 40 rfl
theorem dL_strokes_299 : decode cL_strokes 299 = .ok (.iconst 2, 1) := allD_get dtL_strokes_k2 41 rfl
theorem dL_strokes_300 : decode cL_strokes 300 = .ok (.invokevirtual 17, 3) := allD_get dtL_strokes_k2 42 rfl
theorem dL_strokes_303 : decode cL_strokes 303 = .ok (.iload 5, 2) := allD_get dtL_strokes_k2 43 rfl
theorem dL_strokes_305 : decode cL_strokes 305 = .ok (.if_icmp .ne 84, 3) := allD_get dtL_strokes_k2 44 rfl
theorem dL_strokes_308 : decode cL_strokes 308 = .ok (.aload_n 0, 1) := allD_get dtL_strokes_k2 45 rfl
theorem dL_strokes_309 : decode cL_strokes 309 = .ok (.iload_n 3, 1) := allD_get dtL_strokes_k2 46 rfl
theorem dL_strokes_310 : decode cL_strokes 310 = .ok (.iconst 3, 1) := allD_get dtL_strokes_k2 47 rfl
theorem dL_strokes_311 : decode cL_strokes 311 = .ok (.invokevirtual 17, 3) := allD_get dtL_strokes_k2 48 rfl
theorem dL_strokes_314 : decode cL_strokes 314 = .ok (.iload 6, 2) := allD_get dtL_strokes_k2 49 rfl
theorem dL_strokes_316 : decode cL_strokes 316 = .ok (.if_icmp .ne 73, 3) := allD_get dtL_strokes_k2 50 rfl
theorem dL_strokes_319 : decode cL_strokes 319 = .ok (.aload_n 0, 1) := allD_get dtL_strokes_k2 51 rfl
theorem dL_strokes_320 : decode cL_strokes 320 = .ok (.iload_n 3, 1) := allD_get dtL_strokes_k2 52 rfl
theorem dL_strokes_321 : decode cL_strokes 321 = .ok (.iconst 4, 1) := allD_get dtL_strokes_k2 53 rfl
theorem dL_strokes_322 : decode cL_strokes 322 = .ok (.invokevirtual 17, 3) := allD_get dtL_strokes_k2 54 rfl
theorem dL_strokes_325 : decode cL_strokes 325 = .ok (.iload 7, 2) := allD_get dtL_strokes_k2 55 rfl
theorem dL_strokes_327 : decode cL_strokes 327 = .ok (.if_icmp .ne 62, 3) := allD_get dtL_strokes_k2 56 rfl
theorem dL_strokes_330 : decode cL_strokes 330 = .ok (.aload_n 0, 1) := allD_get dtL_strokes_k2 57 rfl
theorem dL_strokes_331 : decode cL_strokes 331 = .ok (.iload_n 3, 1) := allD_get dtL_strokes_k2 58 rfl
theorem dL_strokes_332 : decode cL_strokes 332 = .ok (.iconst 5, 1) := allD_get dtL_strokes_k2 59 rfl
def tbL_strokes_k3 : List (Nat × Instr × Nat) := [(333, .invokevirtual 17, 3), (336, .iload 8, 2), (338, .if_icmp .ne 51, 3), (341, .aload_n 0, 1), (342, .iload_n 3, 1), (343, .bipush 6, 2), (345, .invokevirtual 17, 3), (348, .iload 9, 2), (350, .if_icmp .ne 39, 3), (353, .aload_n 0, 1), (354, .iload_n 3, 1), (355, .bipush 10, 2), (357, .invokevirtual 17, 3), (360, .bipush (-2), 2), (362, .if_icmp .ne 27, 3), (365, .aload_n 0, 1), (366, .iload_n 3, 1), (367, .iload 4, 2), (369, .iconst 0, 1), (370, .invokevirtual 23, 3), (373, .iconst (-1), 1), (374, .if_icmp .ne 15, 3), (377, .aload_n 0, 1), (378, .iload_n 3, 1), (379, .iconst 0, 1), (380, .iconst 2, 1), (381, .invokevirtual 23, 3), (384, .bipush (-2), 2), (386, .if_icmp .eq 5, 3), (389, .iconst 0, 1), (390, .ireturn, 1), (391, .iinc 3 1, 3), (394, .goto (-388), 3), (397, .aload_n 0, 1), (398, .iconst 1, 1), (399, .invokevirtual 9, 3), (402, .iload_n 1, 1), (403, .if_icmp .ne 41, 3), (406, .aload_n 0, 1), (407, .iconst 2, 1), (408, .invokevirtual 9, 3), (411, .iload_n 2, 1), (412, .if_icmp .ne 32, 3), (415, .aload_n 0, 1), (416, .aload_n 0, 1), (417, .iconst 0, 1), (418, .invokevirtual 9, 3), (421, .iconst 0, 1), (422, .invokevirtual 17, 3), (425, .iconst (-1), 1), (426, .if_icmp .ne 18, 3), (429, .aload_n 0, 1), (430, .bipush 11, 2), (432, .invokevirtual 9, 3), (435, .bipush (-2), 2), (437, .if_icmp .ne 7, 3), (440, .iconst 1, 1), (441, .goto 4, 3), (444, .iconst 0, 1), (445, .ireturn, 1)]
set_option maxRecDepth 100000 in
theorem dtL_strokes_k3 : allD cL_strokes tbL_strokes_k3 = true := by decide +kernel
theorem dL_strokes_333 : decode cL_strokes 333 = .ok (.invokevirtual 17, 3) := allD_get dtL_strokes_k3 0 rfl
theorem dL_strokes_336 : decode cL_strokes 336 = .ok (.iload 8, 2) := allD_get dtL_strokes_k3 1 rfl
theorem dL_strokes_338 : decode cL_strokes 338 = .ok (.if_icmp .ne 51, 3) := allD_get dtL_strokes_k3 2 rfl
theorem dL_strokes_341 : decode cL_strokes 341 = .ok (.aload_n 0, 1) := allD_get dtL_strokes_k3 3 rfl
theorem dL_strokes_342 : decode cL_strokes 342 = .ok (.iload_n 3, 1) := allD_get dtL_strokes_k3 4 rfl
theorem dL_strokes_343 : decode cL_strokes 343 = .ok (.bipush 6, 2) := allD_get dtL_strokes_k3 5 rfl
theorem dL_strokes_345 : decode cL_strokes 345 = .ok (.invokevirtual 17, 3) := allD_get dtL_strokes_k3 6 rfl
theorem dL_strokes_348 : decode cL_strokes 348 = .ok (.iload 9, 2) := allD_get dtL_strokes_k3 7 rfl
theorem dL_strokes_350 : decode cL_strokes 350 = .ok (.if_icmp .ne 39, 3) := allD_get dtL_strokes_k3 8 rfl
theorem dL_strokes_353 : decode cL_strokes 353 = .ok (.aload_n 0, 1) := allD_get dtL_strokes_k3 9 rfl
theorem dL_strokes_354 : decode cL_strokes 354 = .ok (.iload_n 3, 1) := allD_get dtL_strokes_k3 10 rfl
theorem dL_strokes_355 : decode cL_strokes 355 = .ok (.bipush 10, 2) := allD_get dtL_strokes_k3 11 rfl
theorem dL_strokes_357 : decode cL_strokes 357 = .ok (.invokevirtual 17, 3) := allD_get dtL_strokes_k3 12 rfl
theorem dL_strokes_360 : decode cL_strokes 360 = .ok (.bipush (-2), 2) := allD_get dtL_strokes_k3 13 rfl
theorem dL_strokes_362 : decode cL_strokes 362 = .ok (.if_icmp .ne 27, 3) := allD_get dtL_strokes_k3 14 rfl
theorem dL_strokes_365 : decode cL_strokes 365 = .ok (.aload_n 0, 1) := allD_get dtL_strokes_k3 15 rfl
theorem dL_strokes_366 : decode cL_strokes 366 = .ok (.iload_n 3, 1) := allD_get dtL_strokes_k3 16 rfl
theorem dL_strokes_367 : decode cL_strokes 367 = .ok (.iload 4, 2) := allD_get dtL_strokes_k3 17 rfl
theorem dL_strokes_369 : decode cL_strokes 369 = .ok (.iconst 0, 1) := allD_get dtL_strokes_k3 18 rfl
theorem dL_strokes_370 : decode cL_strokes 370 = .ok (.invokevirtual 23, 3) := allD_get dtL_strokes_k3 19 rfl
theorem dL_strokes_373 : decode cL_strokes 373 = .ok (.iconst (-1), 1) := allD_get dtL_strokes_k3 20 rfl
theorem dL_strokes_374 : decode cL_strokes 374 = .ok (.if_icmp .ne 15, 3) := allD_get dtL_strokes_k3 21 rfl
theorem dL_strokes_377 : decode cL_strokes 377 = .ok (.aload_n 0, 1) := allD_get dtL_strokes_k3 22 rfl
theorem dL_strokes_378 : decode cL_strokes 378 = .ok (.iload_n 3, 1) := allD_get dtL_strokes_k3 23 rfl
theorem dL_strokes_379 : decode cL_strokes 379 = .ok (.iconst 0, 1) := allD_get dtL_strokes_k3 24 rfl
theorem dL_strokes_380 : decode cL_strokes 380 = .ok (.iconst 2, 1) := allD_get dtL_strokes_k3 25 rfl
theorem dL_strokes_381 : decode cL_strokes 381 = .ok (.invokevirtual 23, 3) := allD_get dtL_strokes_k3 26 rfl
theorem dL_strokes_384 : decode cL_strokes 384 = .ok (.bipush (-2), 2) := allD_get dtL_strokes_k3 27 rfl
theorem dL_strokes_386 : decode cL_strokes 386 = .ok (.if_icmp .eq 5, 3) := allD_get dtL_strokes_k3 28 rfl
theorem dL_strokes_389 : decode cL_strokes 389 = .ok (.iconst 0, 1) := allD_get dtL_strokes_k3 29 rfl
theorem dL_strokes_390 : decode cL_strokes 390 = .ok (.ireturn, 1) := allD_get dtL_strokes_k3 30 rfl
theorem dL_strokes_391 : decode cL_strokes 391 = .ok (.iinc 3 1, 3) := allD_get dtL_strokes_k3 31 rfl
theorem dL_strokes_394 : decode cL_strokes 394 = .ok (.goto (-388), 3) := allD_get dtL_strokes_k3 32 rfl
theorem dL_strokes_397 : decode cL_strokes 397 = .ok (.aload_n 0, 1) := allD_get dtL_strokes_k3 33 rfl
theorem dL_strokes_398 : decode cL_strokes 398 = .ok (.iconst 1, 1) := allD_get dtL_strokes_k3 34 rfl
theorem dL_strokes_399 : decode cL_strokes 399 = .ok (.invokevirtual 9, 3) := allD_get dtL_strokes_k3 35 rfl
theorem dL_strokes_402 : decode cL_strokes 402 = .ok (.iload_n 1, 1) := allD_get dtL_strokes_k3 36 rfl
theorem dL_strokes_403 : decode cL_strokes 403 = .ok (.if_icmp .ne 41, 3) := allD_get dtL_strokes_k3 37 rfl
theorem dL_strokes_406 : decode cL_strokes 406 = .ok (.aload_n 0, 1) := allD_get dtL_strokes_k3 38 rfl
theorem dL_strokes_407 : decode cL_strokes 407 = .ok (.iconst 2, 1) := allD_get dtL_strokes_k3 39 rfl
theorem dL_strokes_408 : decode cL_strokes 408 = .ok (.invokevirtual 9, 3) := allD_get dtL_strokes_k3 40 rfl
theorem dL_strokes_411 : decode cL_strokes 411 = .ok (.iload_n 2, 1) := allD_get dtL_strokes_k3 41 rfl
theorem dL_strokes_412 : decode cL_strokes 412 = .ok (.if_icmp .ne 32, 3) := allD_get dtL_strokes_k3 42 rfl
theorem dL_strokes_415 : decode cL_strokes 415 = .ok (.aload_n 0, 1) := allD_get dtL_strokes_k3 43 rfl
theorem dL_strokes_416 : decode cL_strokes 416 = .ok (.aload_n 0, 1) := allD_get dtL_strokes_k3 44 rfl
theorem dL_strokes_417 : decode cL_strokes 417 = .ok (.iconst 0, 1) := allD_get dtL_strokes_k3 45 rfl
theorem dL_strokes_418 : decode cL_strokes 418 = .ok (.invokevirtual 9, 3) := allD_get dtL_strokes_k3 46 rfl
theorem dL_strokes_421 : decode cL_strokes 421 = .ok (.iconst 0, 1) := allD_get dtL_strokes_k3 47 rfl
theorem dL_strokes_422 : decode cL_strokes 422 = .ok (.invokevirtual 17, 3) := allD_get dtL_strokes_k3 48 rfl
theorem dL_strokes_425 : decode cL_strokes 425 = .ok (.iconst (-1), 1) := allD_get dtL_strokes_k3 49 rfl
theorem dL_strokes_426 : decode cL_strokes 426 = .ok (.if_icmp .ne 18, 3) := allD_get dtL_strokes_k3 50 rfl
theorem dL_strokes_429 : decode cL_strokes 429 = .ok (.aload_n 0, 1) := allD_get dtL_strokes_k3 51 rfl
theorem dL_strokes_430 : decode cL_strokes 430 = .ok (.bipush 11, 2) := allD_get dtL_strokes_k3 52 rfl
theorem dL_strokes_432 : decode cL_strokes 432 = .ok (.invokevirtual 9, 3) := allD_get dtL_strokes_k3 53 rfl
theorem dL_strokes_435 : decode cL_strokes 435 = .ok (.bipush (-2), 2) := allD_get dtL_strokes_k3 54 rfl
theorem dL_strokes_437 : decode cL_strokes 437 = .ok (.if_icmp .ne 7, 3) := allD_get dtL_strokes_k3 55 rfl
theorem dL_strokes_440 : decode cL_strokes 440 = .ok (.iconst 1, 1) := allD_get dtL_strokes_k3 56 rfl
theorem dL_strokes_441 : decode cL_strokes 441 = .ok (.goto 4, 3) := allD_get dtL_strokes_k3 57 rfl
theorem dL_strokes_444 : decode cL_strokes 444 = .ok (.iconst 0, 1) := allD_get dtL_strokes_k3 58 rfl
theorem dL_strokes_445 : decode cL_strokes 445 = .ok (.ireturn, 1) := allD_get dtL_strokes_k3 59 rfl
def tbL_colors_k0 : List (Nat × Instr × Nat) := [(0, .iconst 0, 1), (1, .istore_n 3, 1), (2, .iconst 0, 1), (3, .istore 4, 2), (5, .iconst 0, 1), (6, .istore 5, 2), (8, .iconst 0, 1), (9, .istore 6, 2), (11, .iconst 0, 1), (12, .istore 7, 2), (14, .iconst 0, 1), (15, .istore 8, 2), (17, .iload 8, 2), (19, .iconst 4, 1), (20, .if_icmp .ge 81, 3), (23, .iload_n 3, 1), (24, .aload_n 0, 1), (25, .iload 8, 2), (27, .iconst 0, 1), (28, .invokevirtual 32, 3), (31, .iadd, 1), (32, .istore_n 3, 1), (33, .iload 4, 2), (35, .aload_n 0, 1), (36, .iload 8, 2), (38, .iconst 1, 1), (39, .invokevirtual 32, 3), (42, .iadd, 1), (43, .istore 4, 2), (45, .iload 5, 2), (47, .aload_n 0, 1), (48, .iload 8, 2), (50, .iconst 2, 1), (51, .invokevirtual 32, 3), (54, .iadd, 1), (55, .istore 5, 2), (57, .iload 6, 2), (59, .aload_n 0, 1), (60, .iload 8, 2), (62, .iconst 3, 1), (63, .invokevirtual 32, 3), (66, .iadd, 1), (67, .istore 6, 2), (69, .aload_n 0, 1), (70, .iload 8, 2), (72, .iconst 3, 1), (73, .invokevirtual 32, 3), (76, .iload 7, 2), (78, .if_icmp .le 13, 3), (81, .aload_n 0, 1), (82, .iload 8, 2), (84, .iconst 3, 1), (85, .invokevirtual 32, 3), (88, .goto 5, 3), (91, .iload 7, 2), (93, .istore 7, 2), (95, .iinc 8 1, 3), (98, .goto (-81), 3), (101, .iload_n 3, 1), (102, .aload_n 0, 1)]
set_option maxRecDepth 100000 in
theorem dtL_colors_k0 : allD cL_colors tbL_colors_k0 = true := by decide +kernel
theorem dL_colors_0 : decode cL_colors 0 = .ok (.iconst 0, 1) := allD_get dtL_colors_k0 0 rfl
theorem dL_colors_1 : decode cL_colors 1 = .ok (.istore_n 3, 1) := allD_get dtL_colors_k0 1 rfl
theorem dL_colors_2 : decode cL_colors 2 = .ok (.iconst 0, 1) := allD_get dtL_colors_k0 2 rfl
theorem dL_colors_3 : decode cL_colors 3 = .ok (.istore 4, 2) := allD_get dtL_colors_k0 3 rfl
theorem dL_colors_5 : decode cL_colors 5 = .ok (.iconst 0, 1) := allD_get dtL_colors_k0 4 rfl
theorem dL_colors_6 : decode cL_colors 6 = .ok (.istore 5, 2) := allD_get dtL_colors_k0 5 rfl
theorem dL_colors_8 : decode cL_colors 8 = .ok (.iconst 0, 1) := allD_get dtL_colors_k0 6 rfl
theorem dL_colors_9 : decode cL_colors 9 = .ok (.istore 6, 2) := allD_get dtL_colors_k0 7 rfl
theorem dL_colors_11 : decode cL_colors 11 = .ok (.iconst 0, 1) := allD_get dtL_colors_k0 8 rfl
theorem dL_colors_12 : decode cL_colors 12 = .ok (.istore 7, 2) := allD_get dtL_colors_k0 9 rfl
theorem dL_colors_14 : decode cL_colors 14 = .ok (.iconst 0, 1) := allD_get dtL_colors_k0 10 rfl
theorem dL_colors_15 : decode cL_colors 15 = .ok (.istore 8, 2) := allD_get dtL_colors_k0 11 rfl
theorem dL_colors_17 : decode cL_colors 17 = .ok (.iload 8, 2) := allD_get dtL_colors_k0 12 rfl
theorem dL_colors_19 : decode cL_colors 19 = .ok (.iconst 4, 1) := allD_get dtL_colors_k0 13 rfl
theorem dL_colors_20 : decode cL_colors 20 = .ok (.if_icmp .ge 81, 3) := allD_get dtL_colors_k0 14 rfl
theorem dL_colors_23 : decode cL_colors 23 = .ok (.iload_n 3, 1) := allD_get dtL_colors_k0 15 rfl
theorem dL_colors_24 : decode cL_colors 24 = .ok (.aload_n 0, 1) := allD_get dtL_colors_k0 16 rfl
theorem dL_colors_25 : decode cL_colors 25 = .ok (.iload 8, 2) := allD_get dtL_colors_k0 17 rfl
theorem dL_colors_27 : decode cL_colors 27 = .ok (.iconst 0, 1) := allD_get dtL_colors_k0 18 rfl
theorem dL_colors_28 : decode cL_colors 28 = .ok (.invokevirtual 32, 3) := allD_get dtL_colors_k0 19 rfl
theorem dL_colors_31 : decode cL_colors 31 = .ok (.iadd, 1) := allD_get dtL_colors_k0 20 rfl
theorem dL_colors_32 : decode cL_colors 32 = .ok (.istore_n 3, 1) := allD_get dtL_colors_k0 21 rfl
theorem dL_colors_33 : decode cL_colors 33 = .ok (.iload 4, 2) := allD_get dtL_colors_k0 22 rfl
theorem dL_colors_35 : decode cL_colors 35 = .ok (.aload_n 0, 1) := allD_get dtL_colors_k0 23 rfl
theorem dL_colors_36 : decode cL_colors 36 = .ok (.iload 8, 2) := allD_get dtL_colors_k0 24 rfl
theorem dL_colors_38 : decode cL_colors 38 = .ok (.iconst 1, 1) := allD_get dtL_colors_k0 25 rfl
theorem dL_colors_39 : decode cL_colors 39 = .ok (.invokevirtual 32, 3) := allD_get dtL_colors_k0 26 rfl
theorem dL_colors_42 : decode cL_colors 42 = .ok (.iadd, 1) := allD_get dtL_colors_k0 27 rfl
theorem dL_colors_43 : decode cL_colors 43 = .ok (.istore 4, 2) := allD_get dtL_colors_k0 28 rfl
theorem dL_colors_45 : decode cL_colors 45 = .ok (.iload 5, 2) := allD_get dtL_colors_k0 29 rfl
theorem dL_colors_47 : decode cL_colors 47 = .ok (.aload_n 0, 1) := allD_get dtL_colors_k0 30 rfl
theorem dL_colors_48 : decode cL_colors 48 = .ok (.iload 8, 2) := allD_get dtL_colors_k0 31 rfl
theorem dL_colors_50 : decode cL_colors 50 = .ok (.iconst 2, 1) := allD_get dtL_colors_k0 32 rfl
theorem dL_colors_51 : decode cL_colors 51 = .ok (.invokevirtual 32, 3) := allD_get dtL_colors_k0 33 rfl
theorem dL_colors_54 : decode cL_colors 54 = .ok (.iadd, 1) := allD_get dtL_colors_k0 34 rfl
theorem dL_colors_55 : decode cL_colors 55 = .ok (.istore 5, 2) := allD_get dtL_colors_k0 35 rfl
theorem dL_colors_57 : decode cL_colors 57 = .ok (.iload 6, 2) := allD_get dtL_colors_k0 36 rfl
theorem dL_colors_59 : decode cL_colors 59 = .ok (.aload_n 0, 1) := allD_get dtL_colors_k0 37 rfl
theorem dL_colors_60 : decode cL_colors 60 = .ok (.iload 8, 2) := allD_get dtL_colors_k0 38 rfl
theorem dL_colors_62 : decode cL_colors 62 = .ok (.iconst 3, 1) := allD_get dtL_colors_k0 39 rfl
theorem dL_colors_63 : decode cL_colors 63 = .ok (.invokevirtual 32, 3) := allD_get dtL_colors_k0 40 rfl
theorem dL_colors_66 : decode cL_colors 66 = .ok (.iadd, 1) := allD_get dtL_colors_k0 41 rfl
theorem dL_colors_67 : decode cL_colors 67 = .ok (.istore 6, 2) := allD_get dtL_colors_k0 42 rfl
theorem dL_colors_69 : decode cL_colors 69 = .ok (.aload_n 0, 1) := allD_get dtL_colors_k0 43 rfl
theorem dL_colors_70 : decode cL_colors 70 = .ok (.iload 8, 2) := allD_get dtL_colors_k0 44 rfl
theorem dL_colors_72 : decode cL_colors 72 = .ok (.iconst 3, 1) := allD_get dtL_colors_k0 45 rfl
theorem dL_colors_73 : decode cL_colors 73 = .ok (.invokevirtual 32, 3) := allD_get dtL_colors_k0 46 rfl
theorem dL_colors_76 : decode cL_colors 76 = .ok (.iload 7, 2) := allD_get dtL_colors_k0 47 rfl
theorem dL_colors_78 : decode cL_colors 78 = .ok (.if_icmp .le 13, 3) := allD_get dtL_colors_k0 48 rfl
theorem dL_colors_81 : decode cL_colors 81 = .ok (.aload_n 0, 1) := allD_get dtL_colors_k0 49 rfl
theorem dL_colors_82 : decode cL_colors 82 = .ok (.iload 8, 2) := allD_get dtL_colors_k0 50 rfl
theorem dL_colors_84 : decode cL_colors 84 = .ok (.iconst 3, 1) := allD_get dtL_colors_k0 51 rfl
theorem dL_colors_85 : decode cL_colors 85 = .ok (.invokevirtual 32, 3) := allD_get dtL_colors_k0 52 rfl
theorem dL_colors_88 : decode cL_colors 88 = .ok (.goto 5, 3) := allD_get dtL_colors_k0 53 rfl
theorem dL_colors_91 : decode cL_colors 91 = .ok (.iload 7, 2) := allD_get dtL_colors_k0 54 rfl
theorem dL_colors_93 : decode cL_colors 93 = .ok (.istore 7, 2) := allD_get dtL_colors_k0 55 rfl
theorem dL_colors_95 : decode cL_colors 95 = .ok (.iinc 8 1, 3) := allD_get dtL_colors_k0 56 rfl
theorem dL_colors_98 : decode cL_colors 98 = .ok (.goto (-81), 3) := allD_get dtL_colors_k0 57 rfl
theorem dL_colors_101 : decode cL_colors 101 = .ok (.iload_n 3, 1) := allD_get dtL_colors_k0 58 rfl
theorem dL_colors_102 : decode cL_colors 102 = .ok (.aload_n 0, 1) := allD_get dtL_colors_k0 59 rfl
def tbL_colors_k1 : List (Nat × Instr × Nat) := [(103, .iconst 0, 1), (104, .invokevirtual 9, 3), (107, .if_icmp .ne 76, 3), (110, .iload 4, 2), (112, .aload_n 0, 1), (113, .iconst 1, 1), (114, .invokevirtual 9, 3), (117, .if_icmp .ne 66, 3), (120, .iload 5, 2), (122, .aload_n 0, 1), (123, .iconst 2, 1), (124, .invokevirtual 9, 3), (127, .if_icmp .ne 56, 3), (130, .aload_n 0, 1), (131, .iconst 5, 1), (132, .invokevirtual 9, 3), (135, .iload 6, 2), (137, .if_icmp .gt 46, 3), (140, .aload_n 0, 1), (141, .iconst 5, 1), (142, .invokevirtual 9, 3), (145, .iload 7, 2), (147, .if_icmp .lt 36, 3), (150, .aload_n 0, 1), (151, .bipush 6, 2), (153, .invokevirtual 9, 3), (156, .iload 4, 2), (158, .if_icmp .gt 25, 3), (161, .aload_n 0, 1), (162, .iconst 4, 1), (163, .iconst 0, 1), (164, .invokevirtual 32, 3), (167, .bipush (-2), 2), (169, .if_icmp .ne 14, 3), (172, .aload_n 0, 1), (173, .iconst 0, 1), (174, .iconst 4, 1), (175, .invokevirtual 32, 3), (178, .bipush (-2), 2), (180, .if_icmp .eq 5, 3), (183, .iconst 0, 1), (184, .ireturn, 1), (185, .iload_n 1, 1), (186, .sipush 1001, 3), (189, .invokestatic 35, 3), (192, .istore 8, 2), (194, .iload_n 2, 1), (195, .sipush 1001, 3), (198, .invokestatic 35, 3), (201, .istore 9, 2), (203, .iconst 0, 1), (204, .istore 10, 2), (206, .iconst 0, 1), (207, .istore 11, 2), (209, .iload 11, 2), (211, .aload_n 0, 1), (212, .iconst 0, 1), (213, .invokevirtual 9, 3), (216, .if_icmp .ge 119, 3), (219, .iconst 0, 1)]
set_option maxRecDepth 100000 in
theorem dtL_colors_k1 : allD cL_colors tbL_colors_k1 = true := by decide +kernel
theorem dL_colors_103 : decode cL_colors 103 = .ok (.iconst 0, 1) := allD_get dtL_colors_k1 0 rfl
theorem dL_colors_104 : decode cL_colors 104 = .ok (.invokevirtual 9, 3) := allD_get dtL_colors_k1 1 rfl
theorem dL_colors_107 : decode cL_colors 107 = .ok (.if_icmp .ne 76, 3) := allD_get dtL_colors_k1 2 rfl
theorem dL_colors_110 : decode cL_colors 110 = .ok (.iload 4, 2) := allD_get dtL_colors_k1 3 rfl
theorem dL_colors_112 : decode cL_colors 112 = .ok (.aload_n 0, 1) := allD_get dtL_colors_k1 4 rfl
theorem dL_colors_113 : decode cL_colors 113 = .ok (.iconst 1, 1) := allD_get dtL_colors_k1 5 rfl
theorem dL_colors_114 : decode cL_colors 114 = .ok (.invokevirtual 9, 3) := allD_get dtL_colors_k1 6 rfl
theorem dL_colors_117 : decode cL_colors 117 = .ok (.if_icmp .ne 66, 3) := allD_get dtL_colors_k1 7 rfl
theorem dL_colors_120 : decode cL_colors 120 = .ok (.iload 5, 2) := allD_get dtL_colors_k1 8 rfl
theorem dL_colors_122 : decode cL_colors 122 = .ok (.aload_n 0, 1) := allD_get dtL_colors_k1 9 rfl
theorem dL_colors_123 : decode cL_colors 123 = .ok (.iconst 2, 1) := allD_get dtL_colors_k1 10 rfl
theorem dL_colors_124 : decode cL_colors 124 = .ok (.invokevirtual 9, 3) := allD_get dtL_colors_k1 11 rfl
theorem dL_colors_127 : decode cL_colors 127 = .ok (.if_icmp .ne 56, 3) := allD_get dtL_colors_k1 12 rfl
theorem dL_colors_130 : decode cL_colors 130 = .ok (.aload_n 0, 1) := allD_get dtL_colors_k1 13 rfl
theorem dL_colors_131 : decode cL_colors 131 = .ok (.iconst 5, 1) := allD_get dtL_colors_k1 14 rfl
theorem dL_colors_132 : decode cL_colors 132 = .ok (.invokevirtual 9, 3) := allD_get dtL_colors_k1 15 rfl
theorem dL_colors_135 : decode cL_colors 135 = .ok (.iload 6, 2) := allD_get dtL_colors_k1 16 rfl
theorem dL_colors_137 : decode cL_colors 137 = .ok (.if_icmp .gt 46, 3) := allD_get dtL_colors_k1 17 rfl
theorem dL_colors_140 : decode cL_colors 140 = .ok (.aload_n 0, 1) := allD_get dtL_colors_k1 18 rfl
theorem dL_colors_141 : decode cL_colors 141 = .ok (.iconst 5, 1) := allD_get dtL_colors_k1 19 rfl
theorem dL_colors_142 : decode cL_colors 142 = .ok (.invokevirtual 9, 3) := allD_get dtL_colors_k1 20 rfl
theorem dL_colors_145 : decode cL_colors 145 = .ok (.iload 7, 2) := allD_get dtL_colors_k1 21 rfl
theorem dL_colors_147 : decode cL_colors 147 = .ok (.if_icmp .lt 36, 3) := allD_get dtL_colors_k1 22 rfl
theorem dL_colors_150 : decode cL_colors 150 = .ok (.aload_n 0, 1) := allD_get dtL_colors_k1 23 rfl
theorem dL_colors_151 : decode cL_colors 151 = .ok (.bipush 6, 2) := allD_get dtL_colors_k1 24 rfl
theorem dL_colors_153 : decode cL_colors 153 = .ok (.invokevirtual 9, 3) := allD_get dtL_colors_k1 25 rfl
theorem dL_colors_156 : decode cL_colors 156 = .ok (.iload 4, 2) := allD_get dtL_colors_k1 26 rfl
theorem dL_colors_158 : decode cL_colors 158 = .ok (.if_icmp .gt 25, 3) := allD_get dtL_colors_k1 27 rfl
theorem dL_colors_161 : decode cL_colors 161 = .ok (.aload_n 0, 1) := allD_get dtL_colors_k1 28 rfl
theorem dL_colors_162 : decode cL_colors 162 = .ok (.iconst 4, 1) := allD_get dtL_colors_k1 29 rfl
theorem dL_colors_163 : decode cL_colors 163 = .ok (.iconst 0, 1) := allD_get dtL_colors_k1 30 rfl
theorem dL_colors_164 : decode cL_colors 164 = .ok (.invokevirtual 32, 3) := allD_get dtL_colors_k1 31 rfl
theorem dL_colors_167 : decode cL_colors 167 = .ok (.bipush (-2), 2) := allD_get dtL_colors_k1 32 rfl
theorem dL_colors_169 : decode cL_colors 169 = .ok (.if_icmp .ne 14, 3) := allD_get dtL_colors_k1 33 rfl
theorem dL_colors_172 : decode cL_colors 172 = .ok (.aload_n 0, 1) := allD_get dtL_colors_k1 34 rfl
theorem dL_colors_173 : decode cL_colors 173 = .ok (.iconst 0, 1) := allD_get dtL_colors_k1 35 rfl
theorem dL_colors_174 : decode cL_colors 174 = .ok (.iconst 4, 1) := allD_get dtL_colors_k1 36 rfl
theorem dL_colors_175 : decode cL_colors 175 = .ok (.invokevirtual 32, 3) := allD_get dtL_colors_k1 37 rfl
theorem dL_colors_178 : decode cL_colors 178 = .ok (.bipush (-2), 2) := allD_get dtL_colors_k1 38 rfl
theorem dL_colors_180 : decode cL_colors 180 = .ok (.if_icmp .eq 5, 3) := allD_get dtL_colors_k1 39 rfl
theorem dL_colors_183 : decode cL_colors 183 = .ok (.iconst 0, 1) := allD_get dtL_colors_k1 40 rfl
theorem dL_colors_184 : decode cL_colors 184 = .ok (.ireturn, 1) := allD_get dtL_colors_k1 41 rfl
theorem dL_colors_185 : decode cL_colors 185 = .ok (.iload_n 1, 1) := allD_get dtL_colors_k1 42 rfl
theorem dL_colors_186 : decode cL_colors 186 = .ok (.sipush 1001, 3) := allD_get dtL_colors_k1 43 rfl
theorem dL_colors_189 : decode cL_colors 189 = .ok (.invokestatic 35, 3) := allD_get dtL_colors_k1 44 rfl
theorem dL_colors_192 : decode cL_colors 192 = .ok (.istore 8, 2) := allD_get dtL_colors_k1 45 rfl
theorem dL_colors_194 : decode cL_colors 194 = .ok (.iload_n 2, 1) := allD_get dtL_colors_k1 46 rfl
theorem dL_colors_195 : decode cL_colors 195 = .ok (.sipush 1001, 3) := allD_get dtL_colors_k1 47 rfl
theorem dL_colors_198 : decode cL_colors 198 = .ok (.invokestatic 35, 3) := allD_get dtL_colors_k1 48 rfl
theorem dL_colors_201 : decode cL_colors 201 = .ok (.istore 9, 2) := allD_get dtL_colors_k1 49 rfl
theorem dL_colors_203 : decode cL_colors 203 = .ok (.iconst 0, 1) := allD_get dtL_colors_k1 50 rfl
theorem dL_colors_204 : decode cL_colors 204 = .ok (.istore 10, 2) := allD_get dtL_colors_k1 51 rfl
theorem dL_colors_206 : decode cL_colors 206 = .ok (.iconst 0, 1) := allD_get dtL_colors_k1 52 rfl
theorem dL_colors_207 : decode cL_colors 207 = .ok (.istore 11, 2) := allD_get dtL_colors_k1 53 rfl
theorem dL_colors_209 : decode cL_colors 209 = .ok (.iload 11, 2) := allD_get dtL_colors_k1 54 rfl
theorem dL_colors_211 : decode cL_colors 211 = .ok (.aload_n 0, 1) := allD_get dtL_colors_k1 55 rfl
theorem dL_colors_212 : decode cL_colors 212 = .ok (.iconst 0, 1) := allD_get dtL_colors_k1 56 rfl
theorem dL_colors_213 : decode cL_colors 213 = .ok (.invokevirtual 9, 3) := allD_get dtL_colors_k1 57 rfl
theorem dL_colors_216 : decode cL_colors 216 = .ok (.if_icmp .ge 119, 3) := allD_get dtL_colors_k1 58 rfl
theorem dL_colors_219 : decode cL_colors 219 = .ok (.iconst 0, 1) := allD_get dtL_colors_k1 59 rfl
def tbL_colors_k2 : List (Nat × Instr × Nat) := [(220, .istore 12, 2), (222, .iload 12, 2), (224, .aload_n 0, 1), (225, .iload 11, 2), (227, .iconst 1, 1), (228, .invokevirtual 17, 3), (231, .if_icmp .ge 98, 3), (234, .aload_n 0, 1), (235, .iload 11, 2), (237, .iload 12, 2), (239, .iconst 0, 1), (240, .invokevirtual 23, 3), (243, .istore 13, 2), (245, .aload_n 0, 1), (246, .iload 11, 2), (248, .iload 12, 2), (250, .iconst 1, 1), (251, .invokevirtual 23, 3), (254, .istore 14, 2), (256, .iload 10, 2), (258, .iload 13, 2), (260, .bipush 10, 2), (262, .idiv, 1), (263, .iload 8, 2), (265, .bipush 10, 2), (267, .idiv, 1), (268, .if_icmp .ne 20, 3), (271, .iload 14, 2), (273, .bipush 10, 2), (275, .idiv, 1), (276, .iload 9, 2), (278, .bipush 10, 2), (280, .idiv, 1), (281, .if_icmp .ne 7, 3), (284, .iconst 1, 1), (285, .goto 4, 3), (288, .iconst 0, 1), (289, .iadd, 1), (290, .istore 10, 2), (292, .aload_n 0, 1), (293, .iload 13, 2), (295, .iload 14, 2), (297, .invokevirtual 38, 3), (300, .iconst 1, 1), (301, .if_icmp .lt 20, 3), (304, .aload_n 0, 1), (305, .iload 13, 2), (307, .iload 14, 2), (309, .invokevirtual 38, 3), (312, .aload_n 0, 1), (313, .bipush 6, 2), (315, .invokevirtual 9, 3), (318, .if_icmp .le 5, 3), (321, .iconst 0, 1), (322, .ireturn, 1), (323, .iinc 12 1, 3), (326, .goto (-104), 3), (329, .iinc 11 1, 3), (332, .goto (-123), 3), (335, .aload_n 0, 1)]
set_option maxRecDepth 100000 in
theorem dtL_colors_k2 : allD cL_colors tbL_colors_k2 = true := by decide +kernel
theorem dL_colors_220 : decode cL_colors 220 = .ok (.istore 12, 2) := allD_get dtL_colors_k2 0 rfl
theorem dL_colors_222 : decode cL_colors 222 = .ok (.iload 12, 2) := allD_get dtL_colors_k2 1 rfl
theorem dL_colors_224 : decode cL_colors 224 = .ok (.aload_n 0, 1) := allD_get dtL_colors_k2 2 rfl
theorem dL_colors_225 : decode cL_colors 225 = .ok (.iload 11, 2) := allD_get dtL_colors_k2 3 rfl
theorem dL_colors_227 : decode cL_colors 227 = .ok (.iconst 1, 1) := allD_get dtL_colors_k2 4 rfl
theorem dL_colors_228 : decode cL_colors 228 = .ok (.invokevirtual 17, 3) := allD_get dtL_colors_k2 5 rfl
theorem dL_colors_231 : decode cL_colors 231 = .ok (.if_icmp .ge 98, 3) := allD_get dtL_colors_k2 6 rfl
theorem dL_colors_234 : decode cL_colors 234 = .ok (.aload_n 0, 1) := allD_get dtL_colors_k2 7 rfl
theorem dL_colors_235 : decode cL_colors 235 = .ok (.iload 11, 2) := allD_get dtL_colors_k2 8 rfl
theorem dL_colors_237 : decode cL_colors 237 = .ok (.iload 12, 2) := allD_get dtL_colors_k2 9 rfl
theorem dL_colors_239 : decode cL_colors 239 = .ok (.iconst 0, 1) := allD_get dtL_colors_k2 10 rfl
theorem dL_colors_240 : decode cL_colors 240 = .ok (.invokevirtual 23, 3) := allD_get dtL_colors_k2 11 rfl
theorem dL_colors_243 : decode cL_colors 243 = .ok (.istore 13, 2) := allD_get dtL_colors_k2 12 rfl
theorem dL_colors_245 : decode cL_colors 245 = .ok (.aload_n 0, 1) := allD_get dtL_colors_k2 13 rfl
theorem dL_colors_246 : decode cL_colors 246 = .ok (.iload 11, 2) := allD_get dtL_colors_k2 14 rfl
theorem dL_colors_248 : decode cL_colors 248 = .ok (.iload 12, 2) := allD_get dtL_colors_k2 15 rfl
theorem dL_colors_250 : decode cL_colors 250 = .ok (.iconst 1, 1) := allD_get dtL_colors_k2 16 rfl
theorem dL_colors_251 : decode cL_colors 251 = .ok (.invokevirtual 23, 3) := allD_get dtL_colors_k2 17 rfl
theorem dL_colors_254 : decode cL_colors 254 = .ok (.istore 14, 2) := allD_get dtL_colors_k2 18 rfl
theorem dL_colors_256 : decode cL_colors 256 = .ok (.iload 10, 2) := allD_get dtL_colors_k2 19 rfl
theorem dL_colors_258 : decode cL_colors 258 = .ok (.iload 13, 2) := allD_get dtL_colors_k2 20 rfl
theorem dL_colors_260 : decode cL_colors 260 = .ok (.bipush 10, 2) := allD_get dtL_colors_k2 21 rfl
theorem dL_colors_262 : decode cL_colors 262 = .ok (.idiv, 1) := allD_get dtL_colors_k2 22 rfl
theorem dL_colors_263 : decode cL_colors 263 = .ok (.iload 8, 2) := allD_get dtL_colors_k2 23 rfl
theorem dL_colors_265 : decode cL_colors 265 = .ok (.bipush 10, 2) := allD_get dtL_colors_k2 24 rfl
theorem dL_colors_267 : decode cL_colors 267 = .ok (.idiv, 1) := allD_get dtL_colors_k2 25 rfl
theorem dL_colors_268 : decode cL_colors 268 = .ok (.if_icmp .ne 20, 3) := allD_get dtL_colors_k2 26 rfl
theorem dL_colors_271 : decode cL_colors 271 = .ok (.iload 14, 2) := allD_get dtL_colors_k2 27 rfl
theorem dL_colors_273 : decode cL_colors 273 = .ok (.bipush 10, 2) := allD_get dtL_colors_k2 28 rfl
theorem dL_colors_275 : decode cL_colors 275 = .ok (.idiv, 1) := allD_get dtL_colors_k2 29 rfl
theorem dL_colors_276 : decode cL_colors 276 = .ok (.iload 9, 2) := allD_get dtL_colors_k2 30 rfl
theorem dL_colors_278 : decode cL_colors 278 = .ok (.bipush 10, 2) := allD_get dtL_colors_k2 31 rfl
theorem dL_colors_280 : decode cL_colors 280 = .ok (.idiv, 1) := allD_get dtL_colors_k2 32 rfl
theorem dL_colors_281 : decode cL_colors 281 = .ok (.if_icmp .ne 7, 3) := allD_get dtL_colors_k2 33 rfl
theorem dL_colors_284 : decode cL_colors 284 = .ok (.iconst 1, 1) := allD_get dtL_colors_k2 34 rfl
theorem dL_colors_285 : decode cL_colors 285 = .ok (.goto 4, 3) := allD_get dtL_colors_k2 35 rfl
theorem dL_colors_288 : decode cL_colors 288 = .ok (.iconst 0, 1) := allD_get dtL_colors_k2 36 rfl
theorem dL_colors_289 : decode cL_colors 289 = .ok (.iadd, 1) := allD_get dtL_colors_k2 37 rfl
theorem dL_colors_290 : decode cL_colors 290 = .ok (.istore 10, 2) := allD_get dtL_colors_k2 38 rfl
theorem dL_colors_292 : decode cL_colors 292 = .ok (.aload_n 0, 1) := allD_get dtL_colors_k2 39 rfl
theorem dL_colors_293 : decode cL_colors 293 = .ok (.iload 13, 2) := allD_get dtL_colors_k2 40 rfl
theorem dL_colors_295 : decode cL_colors 295 = .ok (.iload 14, 2) := allD_get dtL_colors_k2 41 rfl
theorem dL_colors_297 : decode cL_colors 297 = .ok (.invokevirtual 38, 3) := allD_get dtL_colors_k2 42 rfl
theorem dL_colors_300 : decode cL_colors 300 = .ok (.iconst 1, 1) := allD_get dtL_colors_k2 43 rfl
theorem dL_colors_301 : decode cL_colors 301 = .ok (.if_icmp .lt 20, 3) := allD_get dtL_colors_k2 44 rfl
theorem dL_colors_304 : decode cL_colors 304 = .ok (.aload_n 0, 1) := allD_get dtL_colors_k2 45 rfl
theorem dL_colors_305 : decode cL_colors 305 = .ok (.iload 13, 2) := allD_get dtL_colors_k2 46 rfl
theorem dL_colors_307 : decode cL_colors 307 = .ok (.iload 14, 2) := allD_get dtL_colors_k2 47 rfl
theorem dL_colors_309 : decode cL_colors 309 = .ok (.invokevirtual 38, 3) := allD_get dtL_colors_k2 48 rfl
theorem dL_colors_312 : decode cL_colors 312 = .ok (.aload_n 0, 1) := allD_get dtL_colors_k2 49 rfl
theorem dL_colors_313 : decode cL_colors 313 = .ok (.bipush 6, 2) := allD_get dtL_colors_k2 50 rfl
theorem dL_colors_315 : decode cL_colors 315 = .ok (.invokevirtual 9, 3) := allD_get dtL_colors_k2 51 rfl
theorem dL_colors_318 : decode cL_colors 318 = .ok (.if_icmp .le 5, 3) := allD_get dtL_colors_k2 52 rfl
theorem dL_colors_321 : decode cL_colors 321 = .ok (.iconst 0, 1) := allD_get dtL_colors_k2 53 rfl
theorem dL_colors_322 : decode cL_colors 322 = .ok (.ireturn, 1) := allD_get dtL_colors_k2 54 rfl
theorem dL_colors_323 : decode cL_colors 323 = .ok (.iinc 12 1, 3) := allD_get dtL_colors_k2 55 rfl
theorem dL_colors_326 : decode cL_colors 326 = .ok (.goto (-104), 3) := allD_get dtL_colors_k2 56 rfl
theorem dL_colors_329 : decode cL_colors 329 = .ok (.iinc 11 1, 3) := allD_get dtL_colors_k2 57 rfl
theorem dL_colors_332 : decode cL_colors 332 = .ok (.goto (-123), 3) := allD_get dtL_colors_k2 58 rfl
theorem dL_colors_335 : decode cL_colors 335 = .ok (.aload_n 0, 1) := allD_get dtL_colors_k2 59 rfl
def tbL_colors_k3 : List (Nat × Instr × Nat) := [(336, .iload 8, 2), (338, .iload 9, 2), (340, .invokevirtual 38, 3), (343, .iload 10, 2), (345, .if_icmp .ne 76, 3), (348, .aload_n 0, 1), (349, .iconst 0, 1), (350, .invokevirtual 9, 3), (353, .ifCond .ne 7, 3), (356, .iconst 1, 1), (357, .goto 4, 3), (360, .iconst 0, 1), (361, .aload_n 0, 1), (362, .iload 8, 2), (364, .iload 9, 2), (366, .invokevirtual 41, 3), (369, .bipush (-5), 2), (371, .if_icmp .ne 7, 3), (374, .iconst 1, 1), (375, .goto 4, 3), (378, .iconst 0, 1), (379, .if_icmp .ne 42, 3), (382, .aload_n 0, 1), (383, .sipush 1001, 3), (386, .iconst 0, 1), (387, .invokevirtual 41, 3), (390, .bipush (-2), 2), (392, .if_icmp .ne 29, 3), (395, .aload_n 0, 1), (396, .iconst 0, 1), (397, .iconst (-1), 1), (398, .invokevirtual 38, 3), (401, .bipush (-2), 2), (403, .if_icmp .ne 18, 3), (406, .aload_n 0, 1), (407, .iload 8, 2), (409, .iload 9, 2), (411, .invokestatic 44, 3), (414, .ifCond .eq 7, 3), (417, .iconst 1, 1), (418, .goto 4, 3), (421, .iconst 0, 1), (422, .ireturn, 1)]
set_option maxRecDepth 100000 in
theorem dtL_colors_k3 : allD cL_colors tbL_colors_k3 = true := by decide +kernel
theorem dL_colors_336 : decode cL_colors 336 = .ok (.iload 8, 2) := allD_get dtL_colors_k3 0 rfl
theorem dL_colors_338 : decode cL_colors 338 = .ok (.iload 9, 2) := allD_get dtL_colors_k3 1 rfl
theorem dL_colors_340 : decode cL_colors 340 = .ok (.invokevirtual 38, 3) := allD_get dtL_colors_k3 2 rfl
theorem dL_colors_343 : decode cL_colors 343 = .ok (.iload 10, 2) := allD_get dtL_colors_k3 3 rfl
theorem dL_colors_345 : decode cL_colors 345 = .ok (.if_icmp .ne 76, 3) := allD_get dtL_colors_k3 4 rfl
theorem dL_colors_348 : decode cL_colors 348 = .ok (.aload_n 0, 1) := allD_get dtL_colors_k3 5 rfl
theorem dL_colors_349 : decode cL_colors 349 = .ok (.iconst 0, 1) := allD_get dtL_colors_k3 6 rfl
theorem dL_colors_350 : decode cL_colors 350 = .ok (.invokevirtual 9, 3) := allD_get dtL_colors_k3 7 rfl
theorem dL_colors_353 : decode cL_colors 353 = .ok (.ifCond .ne 7, 3) := allD_get dtL_colors_k3 8 rfl
theorem dL_colors_356 : decode cL_colors 356 = .ok (.iconst 1, 1) := allD_get dtL_colors_k3 9 rfl
theorem dL_colors_357 : decode cL_colors 357 = .ok (.goto 4, 3) := allD_get dtL_colors_k3 10 rfl
theorem dL_colors_360 : decode cL_colors 360 = .ok (.iconst 0, 1) := allD_get dtL_colors_k3 11 rfl
theorem dL_colors_361 : decode cL_colors 361 = .ok (.aload_n 0, 1) := allD_get dtL_colors_k3 12 rfl
theorem dL_colors_362 : decode cL_colors 362 = .ok (.iload 8, 2) := allD_get dtL_colors_k3 13 rfl
theorem dL_colors_364 : decode cL_colors 364 = .ok (.iload 9, 2) := allD_get dtL_colors_k3 14 rfl
theorem dL_colors_366 : decode cL_colors 366 = .ok (.invokevirtual 41, 3) := allD_get dtL_colors_k3 15 rfl
theorem dL_colors_369 : decode cL_colors 369 = .ok (.bipush (-5), 2) := allD_get dtL_colors_k3 16 rfl
theorem dL_colors_371 : decode cL_colors 371 = .ok (.if_icmp .ne 7, 3) := allD_get dtL_colors_k3 17 rfl
theorem dL_colors_374 : decode cL_colors 374 = .ok (.iconst 1, 1) := allD_get dtL_colors_k3 18 rfl
theorem dL_colors_375 : decode cL_colors 375 = .ok (.goto 4, 3) := allD_get dtL_colors_k3 19 rfl
theorem dL_colors_378 : decode cL_colors 378 = .ok (.iconst 0, 1) := allD_get dtL_colors_k3 20 rfl
theorem dL_colors_379 : decode cL_colors 379 = .ok (.if_icmp .ne 42, 3) := allD_get dtL_colors_k3 21 rfl
theorem dL_colors_382 : decode cL_colors 382 = .ok (.aload_n 0, 1) := allD_get dtL_colors_k3 22 rfl
theorem dL_colors_383 : decode cL_colors 383 = .ok (.sipush 1001, 3) := allD_get dtL_colors_k3 23 rfl
theorem dL_colors_386 : decode cL_colors 386 = .ok (.iconst 0, 1) := allD_get dtL_colors_k3 24 rfl
theorem dL_colors_387 : decode cL_colors 387 = .ok (.invokevirtual 41, 3) := allD_get dtL_colors_k3 25 rfl
theorem dL_colors_390 : decode cL_colors 390 = .ok (.bipush (-2), 2) := allD_get dtL_colors_k3 26 rfl
theorem dL_colors_392 : decode cL_colors 392 = .ok (.if_icmp .ne 29, 3) := allD_get dtL_colors_k3 27 rfl
theorem dL_colors_395 : decode cL_colors 395 = .ok (.aload_n 0, 1) := allD_get dtL_colors_k3 28 rfl
theorem dL_colors_396 : decode cL_colors 396 = .ok (.iconst 0, 1) := allD_get dtL_colors_k3 29 rfl
theorem dL_colors_397 : decode cL_colors 397 = .ok (.iconst (-1), 1) := allD_get dtL_colors_k3 30 rfl
theorem dL_colors_398 : decode cL_colors 398 = .ok (.invokevirtual 38, 3) := allD_get dtL_colors_k3 31 rfl
theorem dL_colors_401 : decode cL_colors 401 = .ok (.bipush (-2), 2) := allD_get dtL_colors_k3 32 rfl
theorem dL_colors_403 : decode cL_colors 403 = .ok (.if_icmp .ne 18, 3) := allD_get dtL_colors_k3 33 rfl
theorem dL_colors_406 : decode cL_colors 406 = .ok (.aload_n 0, 1) := allD_get dtL_colors_k3 34 rfl
theorem dL_colors_407 : decode cL_colors 407 = .ok (.iload 8, 2) := allD_get dtL_colors_k3 35 rfl
theorem dL_colors_409 : decode cL_colors 409 = .ok (.iload 9, 2) := allD_get dtL_colors_k3 36 rfl
theorem dL_colors_411 : decode cL_colors 411 = .ok (.invokestatic 44, 3) := allD_get dtL_colors_k3 37 rfl
theorem dL_colors_414 : decode cL_colors 414 = .ok (.ifCond .eq 7, 3) := allD_get dtL_colors_k3 38 rfl
theorem dL_colors_417 : decode cL_colors 417 = .ok (.iconst 1, 1) := allD_get dtL_colors_k3 39 rfl
theorem dL_colors_418 : decode cL_colors 418 = .ok (.goto 4, 3) := allD_get dtL_colors_k3 40 rfl
theorem dL_colors_421 : decode cL_colors 421 = .ok (.iconst 0, 1) := allD_get dtL_colors_k3 41 rfl
theorem dL_colors_422 : decode cL_colors 422 = .ok (.ireturn, 1) := allD_get dtL_colors_k3 42 rfl
def tbL_nearest_k0 : List (Nat × Instr × Nat) := [(0, .aload_n 0, 1), (1, .iload_n 1, 1), (2, .iload_n 2, 1), (3, .invokevirtual 41, 3), (6, .istore_n 3, 1), (7, .iload_n 3, 1), (8, .ifCond .ge 15, 3), (11, .iload_n 3, 1), (12, .bipush (-5), 2), (14, .if_icmp .ne 7, 3), (17, .iconst 1, 1), (18, .goto 4, 3), (21, .iconst 0, 1), (22, .ireturn, 1), (23, .ldc 47, 2), (25, .istore 4, 2), (27, .iconst 0, 1), (28, .istore 5, 2), (30, .iload 5, 2), (32, .aload_n 0, 1), (33, .iload_n 3, 1), (34, .iconst 1, 1), (35, .invokevirtual 17, 3), (38, .if_icmp .ge 50, 3), (41, .aload_n 0, 1), (42, .iload_n 3, 1), (43, .iload 5, 2), (45, .iconst 0, 1), (46, .invokevirtual 23, 3), (49, .iload_n 1, 1), (50, .isub, 1), (51, .aload_n 0, 1), (52, .iload_n 3, 1), (53, .iload 5, 2), (55, .iconst 1, 1), (56, .invokevirtual 23, 3), (59, .iload_n 2, 1), (60, .isub, 1), (61, .invokestatic 27, 3), (64, .istore 6, 2), (66, .iload 6, 2), (68, .iload 4, 2), (70, .if_icmp .ge 8, 3), (73, .iload 6, 2), (75, .goto 5, 3), (78, .iload 4, 2), (80, .istore 4, 2), (82, .iinc 5 1, 3), (85, .goto (-55), 3), (88, .iconst 0, 1), (89, .istore 5, 2), (91, .iload 5, 2), (93, .aload_n 0, 1), (94, .iconst 0, 1), (95, .invokevirtual 9, 3), (98, .if_icmp .ge 79, 3), (101, .iconst 0, 1), (102, .istore 6, 2), (104, .iload 6, 2), (106, .aload_n 0, 1)]
set_option maxRecDepth 100000 in
theorem dtL_nearest_k0 : allD cL_nearest tbL_nearest_k0 = true := by decide +kernel
theorem dL_nearest_0 : decode cL_nearest 0 = .ok (.aload_n 0, 1) := allD_get dtL_nearest_k0 0 rfl
theorem dL_nearest_1 : decode cL_nearest 1 = .ok (.iload_n 1, 1) := allD_get dtL_nearest_k0 1 rfl
theorem dL_nearest_2 : decode cL_nearest 2 = .ok (.iload_n 2, 1) := allD_get dtL_nearest_k0 2 rfl
theorem dL_nearest_3 : decode cL_nearest 3 = .ok (.invokevirtual 41, 3) := allD_get dtL_nearest_k0 3 rfl
theorem dL_nearest_6 : decode cL_nearest 6 = .ok (.istore_n 3, 1) := allD_get dtL_nearest_k0 4 rfl
theorem dL_nearest_7 : decode cL_nearest 7 = .ok (.iload_n 3, 1) := allD_get dtL_nearest_k0 5 rfl
theorem dL_nearest_8 : decode cL_nearest 8 = .ok (.ifCond .ge 15, 3) := allD_get dtL_nearest_k0 6 rfl
theorem dL_nearest_11 : decode cL_nearest 11 = .ok (.iload_n 3, 1) := allD_get dtL_nearest_k0 7 rfl
theorem dL_nearest_12 : decode cL_nearest 12 = .ok (.bipush (-5), 2) := allD_get dtL_nearest_k0 8 rfl
theorem dL_nearest_14 : decode cL_nearest 14 = .ok (.if_icmp .ne 7, 3) := allD_get dtL_nearest_k0 9 rfl
theorem dL_nearest_17 : decode cL_nearest 17 = .ok (.iconst 1, 1) := allD_get dtL_nearest_k0 10 rfl
theorem dL_nearest_18 : decode cL_nearest 18 = .ok (.goto 4, 3) := allD_get dtL_nearest_k0 11 rfl
theorem dL_nearest_21 : decode cL_nearest 21 = .ok (.iconst 0, 1) := allD_get dtL_nearest_k0 12 rfl
theorem dL_nearest_22 : decode cL_nearest 22 = .ok (.ireturn, 1) := allD_get dtL_nearest_k0 13 rfl
theorem dL_nearest_23 : decode cL_nearest 23 = .ok (.ldc 47, 2) := allD_get dtL_nearest_k0 14 rfl
theorem dL_nearest_25 : decode cL_nearest 25 = .ok (.istore 4, 2) := allD_get dtL_nearest_k0 15 rfl
theorem dL_nearest_27 : decode cL_nearest 27 = .ok (.iconst 0, 1) := allD_get dtL_nearest_k0 16 rfl
theorem dL_nearest_28 : decode cL_nearest 28 = .ok (.istore 5, 2) := allD_get dtL_nearest_k0 17 rfl
theorem dL_nearest_30 : decode cL_nearest 30 = .ok (.iload 5, 2) := allD_get dtL_nearest_k0 18 rfl
theorem dL_nearest_32 : decode cL_nearest 32 = .ok (.aload_n 0, 1) := allD_get dtL_nearest_k0 19 rfl
theorem dL_nearest_33 : decode cL_nearest 33 = .ok (.iload_n 3, 1) := allD_get dtL_nearest_k0 20 rfl
theorem dL_nearest_34 : decode cL_nearest 34 = .ok (.iconst 1, 1) := allD_get dtL_nearest_k0 21 rfl
theorem dL_nearest_35 : decode cL_nearest 35 = .ok (.invokevirtual 17, 3) := allD_get dtL_nearest_k0 22 rfl
theorem dL_nearest_38 : decode cL_nearest 38 = .ok (.if_icmp .ge 50, 3) := allD_get dtL_nearest_k0 23 rfl
theorem dL_nearest_41 : decode cL_nearest 41 = .ok (.aload_n 0, 1) := allD_get dtL_nearest_k0 24 rfl
theorem dL_nearest_42 : decode cL_nearest 42 = .ok (.iload_n 3, 1) := allD_get dtL_nearest_k0 25 rfl
theorem dL_nearest_43 : decode cL_nearest 43 = .ok (.iload 5, 2) := allD_get dtL_nearest_k0 26 rfl
theorem dL_nearest_45 : decode cL_nearest 45 = .ok (.iconst 0, 1) := allD_get dtL_nearest_k0 27 rfl
theorem dL_nearest_46 : decode cL_nearest 46 = .ok (.invokevirtual 23, 3) := allD_get dtL_nearest_k0 28 rfl
theorem dL_nearest_49 : decode cL_nearest 49 = .ok (.iload_n 1, 1) := allD_get dtL_nearest_k0 29 rfl
theorem dL_nearest_50 : decode cL_nearest 50 = .ok (.isub, 1) := allD_get dtL_nearest_k0 30 rfl
theorem dL_nearest_51 : decode cL_nearest 51 = .ok (.aload_n 0, 1) := allD_get dtL_nearest_k0 31 rfl
theorem dL_nearest_52 : decode cL_nearest 52 = .ok (.iload_n 3, 1) := allD_get dtL_nearest_k0 32 rfl
theorem dL_nearest_53 : decode cL_nearest 53 = .ok (.iload 5, 2) := allD_get dtL_nearest_k0 33 rfl
theorem dL_nearest_55 : decode cL_nearest 55 = .ok (.iconst 1, 1) := allD_get dtL_nearest_k0 34 rfl
theorem dL_nearest_56 : decode cL_nearest 56 = .ok (.invokevirtual 23, 3) := allD_get dtL_nearest_k0 35 rfl
theorem dL_nearest_59 : decode cL_nearest 59 = .ok (.iload_n 2, 1) := allD_get dtL_nearest_k0 36 rfl
theorem dL_nearest_60 : decode cL_nearest 60 = .ok (.isub, 1) := allD_get dtL_nearest_k0 37 rfl
theorem dL_nearest_61 : decode cL_nearest 61 = .ok (.invokestatic 27, 3) := allD_get dtL_nearest_k0 38 rfl
theorem dL_nearest_64 : decode cL_nearest 64 = .ok (.istore 6, 2) := allD_get dtL_nearest_k0 39 rfl
theorem dL_nearest_66 : decode cL_nearest 66 = .ok (.iload 6, 2) := allD_get dtL_nearest_k0 40 rfl
theorem dL_nearest_68 : decode cL_nearest 68 = .ok (.iload 4, 2) := allD_get dtL_nearest_k0 41 rfl
theorem dL_nearest_70 : decode cL_nearest 70 = .ok (.if_icmp .ge 8, 3) := allD_get dtL_nearest_k0 42 rfl
theorem dL_nearest_73 : decode cL_nearest 73 = .ok (.iload 6, 2) := allD_get dtL_nearest_k0 43 rfl
theorem dL_nearest_75 : decode cL_nearest 75 = .ok (.goto 5, 3) := allD_get dtL_nearest_k0 44 rfl
theorem dL_nearest_78 : decode cL_nearest 78 = .ok (.iload 4, 2) := allD_get dtL_nearest_k0 45 rfl
theorem dL_nearest_80 : decode cL_nearest 80 = .ok (.istore 4, 2) := allD_get dtL_nearest_k0 46 rfl
theorem dL_nearest_82 : decode cL_nearest 82 = .ok (.iinc 5 1, 3) := allD_get dtL_nearest_k0 47 rfl
theorem dL_nearest_85 : decode cL_nearest 85 = .ok (.goto (-55), 3) := allD_get dtL_nearest_k0 48 rfl
theorem dL_nearest_88 : decode cL_nearest 88 = .ok (.iconst 0, 1) := allD_get dtL_nearest_k0 49 rfl
theorem dL_nearest_89 : decode cL_nearest 89 = .ok (.istore 5, 2) := allD_get dtL_nearest_k0 50 rfl
theorem dL_nearest_91 : decode cL_nearest 91 = .ok (.iload 5, 2) := allD_get dtL_nearest_k0 51 rfl
theorem dL_nearest_93 : decode cL_nearest 93 = .ok (.aload_n 0, 1) := allD_get dtL_nearest_k0 52 rfl
theorem dL_nearest_94 : decode cL_nearest 94 = .ok (.iconst 0, 1) := allD_get dtL_nearest_k0 53 rfl
theorem dL_nearest_95 : decode cL_nearest 95 = .ok (.invokevirtual 9, 3) := allD_get dtL_nearest_k0 54 rfl
theorem dL_nearest_98 : decode cL_nearest 98 = .ok (.if_icmp .ge 79, 3) := allD_get dtL_nearest_k0 55 rfl
theorem dL_nearest_101 : decode cL_nearest 101 = .ok (.iconst 0, 1) := allD_get dtL_nearest_k0 56 rfl
theorem dL_nearest_102 : decode cL_nearest 102 = .ok (.istore 6, 2) := allD_get dtL_nearest_k0 57 rfl
theorem dL_nearest_104 : decode cL_nearest 104 = .ok (.iload 6, 2) := allD_get dtL_nearest_k0 58 rfl
theorem dL_nearest_106 : decode cL_nearest 106 = .ok (.aload_n 0, 1) := allD_get dtL_nearest_k0 59 rfl
def tbL_nearest_k1 : List (Nat × Instr × Nat) := [(107, .iload 5, 2), (109, .iconst 1, 1), (110, .invokevirtual 17, 3), (113, .if_icmp .ge 58, 3), (116, .aload_n 0, 1), (117, .iload 5, 2), (119, .iload 6, 2), (121, .iconst 0, 1), (122, .invokevirtual 23, 3), (125, .iload_n 1, 1), (126, .isub, 1), (127, .aload_n 0, 1), (128, .iload 5, 2), (130, .iload 6, 2), (132, .iconst 1, 1), (133, .invokevirtual 23, 3), (136, .iload_n 2, 1), (137, .isub, 1), (138, .invokestatic 27, 3), (141, .istore 7, 2), (143, .iload 7, 2), (145, .iload 4, 2), (147, .if_icmp .lt 16, 3), (150, .iload 7, 2), (152, .iload 4, 2), (154, .if_icmp .ne 11, 3), (157, .iload 5, 2), (159, .iload_n 3, 1), (160, .if_icmp .ge 5, 3), (163, .iconst 0, 1), (164, .ireturn, 1), (165, .iinc 6 1, 3), (168, .goto (-64), 3), (171, .iinc 5 1, 3), (174, .goto (-83), 3), (177, .iconst 1, 1), (178, .ireturn, 1)]
set_option maxRecDepth 100000 in
theorem dtL_nearest_k1 : allD cL_nearest tbL_nearest_k1 = true := by decide +kernel
theorem dL_nearest_107 : decode cL_nearest 107 = .ok (.iload 5, 2) := allD_get dtL_nearest_k1 0 rfl
theorem dL_nearest_109 : decode cL_nearest 109 = .ok (.iconst 1, 1) := allD_get dtL_nearest_k1 1 rfl
theorem dL_nearest_110 : decode cL_nearest 110 = .ok (.invokevirtual 17, 3) := allD_get dtL_nearest_k1 2 rfl
theorem dL_nearest_113 : decode cL_nearest 113 = .ok (.if_icmp .ge 58, 3) := allD_get dtL_nearest_k1 3 rfl
theorem dL_nearest_116 : decode cL_nearest 116 = .ok (.aload_n 0, 1) := allD_get dtL_nearest_k1 4 rfl
theorem dL_nearest_117 : decode cL_nearest 117 = .ok (.iload 5, 2) := allD_get dtL_nearest_k1 5 rfl
theorem dL_nearest_119 : decode cL_nearest 119 = .ok (.iload 6, 2) := allD_get dtL_nearest_k1 6 rfl
theorem dL_nearest_121 : decode cL_nearest 121 = .ok (.iconst 0, 1) := allD_get dtL_nearest_k1 7 rfl
theorem dL_nearest_122 : decode cL_nearest 122 = .ok (.invokevirtual 23, 3) := allD_get dtL_nearest_k1 8 rfl
theorem dL_nearest_125 : decode cL_nearest 125 = .ok (.iload_n 1, 1) := allD_get dtL_nearest_k1 9 rfl
theorem dL_nearest_126 : decode cL_nearest 126 = .ok (.isub, 1) := allD_get dtL_nearest_k1 10 rfl
theorem dL_nearest_127 : decode cL_nearest 127 = .ok (.aload_n 0, 1) := allD_get dtL_nearest_k1 11 rfl
theorem dL_nearest_128 : decode cL_nearest 128 = .ok (.iload 5, 2) := allD_get dtL_nearest_k1 12 rfl
theorem dL_nearest_130 : decode cL_nearest 130 = .ok (.iload 6, 2) := allD_get dtL_nearest_k1 13 rfl
theorem dL_nearest_132 : decode cL_nearest 132 = .ok (.iconst 1, 1) := allD_get dtL_nearest_k1 14 rfl
theorem dL_nearest_133 : decode cL_nearest 133 = .ok (.invokevirtual 23, 3) := allD_get dtL_nearest_k1 15 rfl
theorem dL_nearest_136 : decode cL_nearest 136 = .ok (.iload_n 2, 1) := allD_get dtL_nearest_k1 16 rfl
theorem dL_nearest_137 : decode cL_nearest 137 = .ok (.isub, 1) := allD_get dtL_nearest_k1 17 rfl
theorem dL_nearest_138 : decode cL_nearest 138 = .ok (.invokestatic 27, 3) := allD_get dtL_nearest_k1 18 rfl
theorem dL_nearest_141 : decode cL_nearest 141 = .ok (.istore 7, 2) := allD_get dtL_nearest_k1 19 rfl
theorem dL_nearest_143 : decode cL_nearest 143 = .ok (.iload 7, 2) := allD_get dtL_nearest_k1 20 rfl
theorem dL_nearest_145 : decode cL_nearest 145 = .ok (.iload 4, 2) := allD_get dtL_nearest_k1 21 rfl
theorem dL_nearest_147 : decode cL_nearest 147 = .ok (.if_icmp .lt 16, 3) := allD_get dtL_nearest_k1 22 rfl
theorem dL_nearest_150 : decode cL_nearest 150 = .ok (.iload 7, 2) := allD_get dtL_nearest_k1 23 rfl
theorem dL_nearest_152 : decode cL_nearest 152 = .ok (.iload 4, 2) := allD_get dtL_nearest_k1 24 rfl
theorem dL_nearest_154 : decode cL_nearest 154 = .ok (.if_icmp .ne 11, 3) := allD_get dtL_nearest_k1 25 rfl
theorem dL_nearest_157 : decode cL_nearest 157 = .ok (.iload 5, 2) := allD_get dtL_nearest_k1 26 rfl
theorem dL_nearest_159 : decode cL_nearest 159 = .ok (.iload_n 3, 1) := allD_get dtL_nearest_k1 27 rfl
theorem dL_nearest_160 : decode cL_nearest 160 = .ok (.if_icmp .ge 5, 3) := allD_get dtL_nearest_k1 28 rfl
theorem dL_nearest_163 : decode cL_nearest 163 = .ok (.iconst 0, 1) := allD_get dtL_nearest_k1 29 rfl
theorem dL_nearest_164 : decode cL_nearest 164 = .ok (.ireturn, 1) := allD_get dtL_nearest_k1 30 rfl
theorem dL_nearest_165 : decode cL_nearest 165 = .ok (.iinc 6 1, 3) := allD_get dtL_nearest_k1 31 rfl
theorem dL_nearest_168 : decode cL_nearest 168 = .ok (.goto (-64), 3) := allD_get dtL_nearest_k1 32 rfl
theorem dL_nearest_171 : decode cL_nearest 171 = .ok (.iinc 5 1, 3) := allD_get dtL_nearest_k1 33 rfl
theorem dL_nearest_174 : decode cL_nearest 174 = .ok (.goto (-83), 3) := allD_get dtL_nearest_k1 34 rfl
theorem dL_nearest_177 : decode cL_nearest 177 = .ok (.iconst 1, 1) := allD_get dtL_nearest_k1 35 rfl
theorem dL_nearest_178 : decode cL_nearest 178 = .ok (.ireturn, 1) := allD_get dtL_nearest_k1 36 rfl
def tbL_order_k0 : List (Nat × Instr × Nat) := [(0, .aload_n 0, 1), (1, .iconst 0, 1), (2, .invokevirtual 9, 3), (5, .istore_n 2, 1), (6, .iconst 0, 1), (7, .istore_n 3, 1), (8, .iconst (-1), 1), (9, .istore 4, 2), (11, .iconst 0, 1), (12, .istore 5, 2), (14, .iconst 0, 1), (15, .istore 6, 2), (17, .iload 6, 2), (19, .iload_n 2, 1), (20, .if_icmp .ge 380, 3), (23, .aload_n 0, 1), (24, .iload 6, 2), (26, .invokevirtual 48, 3), (29, .istore 7, 2), (31, .iload 7, 2), (33, .ifCond .lt 32, 3), (36, .iload 7, 2), (38, .iload_n 2, 1), (39, .if_icmp .ge 26, 3), (42, .iload_n 3, 1), (43, .iload 7, 2), (45, .ishr, 1), (46, .iconst 1, 1), (47, .iand, 1), (48, .iconst 1, 1), (49, .if_icmp .eq 16, 3), (52, .aload_n 0, 1), (53, .iload 7, 2), (55, .bipush 9, 2), (57, .invokevirtual 17, 3), (60, .iload 6, 2), (62, .if_icmp .eq 5, 3), (65, .iconst 0, 1), (66, .ireturn, 1), (67, .iload_n 3, 1), (68, .iconst 1, 1), (69, .iload 7, 2), (71, .ishl, 1), (72, .ior, 1), (73, .istore_n 3, 1), (74, .iload 6, 2), (76, .ifCond .ne 7, 3), (79, .iconst (-1), 1), (80, .goto 11, 3), (83, .aload_n 0, 1), (84, .iload 6, 2), (86, .iconst 1, 1), (87, .isub, 1), (88, .invokevirtual 48, 3), (91, .istore 8, 2), (93, .iload 6, 2), (95, .ifCond .eq 22, 3), (98, .aload_n 0, 1), (99, .iload 7, 2), (101, .bipush 7, 2)]
set_option maxRecDepth 100000 in
theorem dtL_order_k0 : allD cL_order tbL_order_k0 = true := by decide +kernel
theorem dL_order_0 : decode cL_order 0 = .ok (.aload_n 0, 1) := allD_get dtL_order_k0 0 rfl
theorem dL_order_1 : decode cL_order 1 = .ok (.iconst 0, 1) := allD_get dtL_order_k0 1 rfl
theorem dL_order_2 : decode cL_order 2 = .ok (.invokevirtual 9, 3) := allD_get dtL_order_k0 2 rfl
theorem dL_order_5 : decode cL_order 5 = .ok (.istore_n 2, 1) := allD_get dtL_order_k0 3 rfl
theorem dL_order_6 : decode cL_order 6 = .ok (.iconst 0, 1) := allD_get dtL_order_k0 4 rfl
theorem dL_order_7 : decode cL_order 7 = .ok (.istore_n 3, 1) := allD_get dtL_order_k0 5 rfl
theorem dL_order_8 : decode cL_order 8 = .ok (.iconst (-1), 1) := allD_get dtL_order_k0 6 rfl
theorem dL_order_9 : decode cL_order 9 = .ok (.istore 4, 2) := allD_get dtL_order_k0 7 rfl
theorem dL_order_11 : decode cL_order 11 = .ok (.iconst 0, 1) := allD_get dtL_order_k0 8 rfl
theorem dL_order_12 : decode cL_order 12 = .ok (.istore 5, 2) := allD_get dtL_order_k0 9 rfl
theorem dL_order_14 : decode cL_order 14 = .ok (.iconst 0, 1) := allD_get dtL_order_k0 10 rfl
theorem dL_order_15 : decode cL_order 15 = .ok (.istore 6, 2) := allD_get dtL_order_k0 11 rfl
theorem dL_order_17 : decode cL_order 17 = .ok (.iload 6, 2) := allD_get dtL_order_k0 12 rfl
theorem dL_order_19 : decode cL_order 19 = .ok (.iload_n 2, 1) := allD_get dtL_order_k0 13 rfl
theorem dL_order_20 : decode cL_order 20 = .ok (.if_icmp .ge 380, 3) := allD_get dtL_order_k0 14 rfl
theorem dL_order_23 : decode cL_order 23 = .ok (.aload_n 0, 1) := allD_get dtL_order_k0 15 rfl
theorem dL_order_24 : decode cL_order 24 = .ok (.iload 6, 2) := allD_get dtL_order_k0 16 rfl
theorem dL_order_26 : decode cL_order 26 = .ok (.invokevirtual 48, 3) := allD_get dtL_order_k0 17 rfl
theorem dL_order_29 : decode cL_order 29 = .ok (.istore 7, 2) := allD_get dtL_order_k0 18 rfl
theorem dL_order_31 : decode cL_order 31 = .ok (.iload 7, 2) := allD_get dtL_order_k0 19 rfl
theorem dL_order_33 : decode cL_order 33 = .ok (.ifCond .lt 32, 3) := allD_get dtL_order_k0 20 rfl
theorem dL_order_36 : decode cL_order 36 = .ok (.iload 7, 2) := allD_get dtL_order_k0 21 rfl
theorem dL_order_38 : decode cL_order 38 = .ok (.iload_n 2, 1) := allD_get dtL_order_k0 22 rfl
theorem dL_order_39 : decode cL_order 39 = .ok (.if_icmp .ge 26, 3) := allD_get dtL_order_k0 23 rfl
theorem dL_order_42 : decode cL_order 42 = .ok (.iload_n 3, 1) := allD_get dtL_order_k0 24 rfl
theorem dL_order_43 : decode cL_order 43 = .ok (.iload 7, 2) := allD_get dtL_order_k0 25 rfl
theorem dL_order_45 : decode cL_order 45 = .ok (.ishr, 1) := allD_get dtL_order_k0 26 rfl
theorem dL_order_46 : decode cL_order 46 = .ok (.iconst 1, 1) := allD_get dtL_order_k0 27 rfl
theorem dL_order_47 : decode cL_order 47 = .ok (.iand, 1) := allD_get dtL_order_k0 28 rfl
theorem dL_order_48 : decode cL_order 48 = .ok (.iconst 1, 1) := allD_get dtL_order_k0 29 rfl
theorem dL_order_49 : decode cL_order 49 = .ok (.if_icmp .eq 16, 3) := allD_get dtL_order_k0 30 rfl
theorem dL_order_52 : decode cL_order 52 = .ok (.aload_n 0, 1) := allD_get dtL_order_k0 31 rfl
theorem dL_order_53 : decode cL_order 53 = .ok (.iload 7, 2) := allD_get dtL_order_k0 32 rfl
theorem dL_order_55 : decode cL_order 55 = .ok (.bipush 9, 2) := allD_get dtL_order_k0 33 rfl
theorem dL_order_57 : decode cL_order 57 = .ok (.invokevirtual 17, 3) := allD_get dtL_order_k0 34 rfl
theorem dL_order_60 : decode cL_order 60 = .ok (.iload 6, 2) := allD_get dtL_order_k0 35 rfl
theorem dL_order_62 : decode cL_order 62 = .ok (.if_icmp .eq 5, 3) := allD_get dtL_order_k0 36 rfl
theorem dL_order_65 : decode cL_order 65 = .ok (.iconst 0, 1) := allD_get dtL_order_k0 37 rfl
theorem dL_order_66 : decode cL_order 66 = .ok (.ireturn, 1) := allD_get dtL_order_k0 38 rfl
theorem dL_order_67 : decode cL_order 67 = .ok (.iload_n 3, 1) := allD_get dtL_order_k0 39 rfl
theorem dL_order_68 : decode cL_order 68 = .ok (.iconst 1, 1) := allD_get dtL_order_k0 40 rfl
theorem dL_order_69 : decode cL_order 69 = .ok (.iload 7, 2) := allD_get dtL_order_k0 41 rfl
theorem dL_order_71 : decode cL_order 71 = .ok (.ishl, 1) := allD_get dtL_order_k0 42 rfl
theorem dL_order_72 : decode cL_order 72 = .ok (.ior, 1) := allD_get dtL_order_k0 43 rfl
theorem dL_order_73 : decode cL_order 73 = .ok (.istore_n 3, 1) := allD_get dtL_order_k0 44 rfl
theorem dL_order_74 : decode cL_order 74 = .ok (.iload 6, 2) := allD_get dtL_order_k0 45 rfl
theorem dL_order_76 : decode cL_order 76 = .ok (.ifCond .ne 7, 3) := allD_get dtL_order_k0 46 rfl
theorem dL_order_79 : decode cL_order 79 = .ok (.iconst (-1), 1) := allD_get dtL_order_k0 47 rfl
theorem dL_order_80 : decode cL_order 80 = .ok (.goto 11, 3) := allD_get dtL_order_k0 48 rfl
theorem dL_order_83 : decode cL_order 83 = .ok (.aload_n 0, 1) := allD_get dtL_order_k0 49 rfl
theorem dL_order_84 : decode cL_order 84 = .ok (.iload 6, 2) := allD_get dtL_order_k0 50 rfl
theorem dL_order_86 : decode cL_order 86 = .ok (.iconst 1, 1) := allD_get dtL_order_k0 51 rfl
theorem dL_order_87 : decode cL_order 87 = .ok (.isub, 1) := allD_get dtL_order_k0 52 rfl
theorem dL_order_88 : decode cL_order 88 = .ok (.invokevirtual 48, 3) := allD_get dtL_order_k0 53 rfl
theorem dL_order_91 : decode cL_order 91 = .ok (.istore 8, 2) := allD_get dtL_order_k0 54 rfl
theorem dL_order_93 : decode cL_order 93 = .ok (.iload 6, 2) := allD_get dtL_order_k0 55 rfl
theorem dL_order_95 : decode cL_order 95 = .ok (.ifCond .eq 22, 3) := allD_get dtL_order_k0 56 rfl
theorem dL_order_98 : decode cL_order 98 = .ok (.aload_n 0, 1) := allD_get dtL_order_k0 57 rfl
theorem dL_order_99 : decode cL_order 99 = .ok (.iload 7, 2) := allD_get dtL_order_k0 58 rfl
theorem dL_order_101 : decode cL_order 101 = .ok (.bipush 7, 2) := allD_get dtL_order_k0 59 rfl
def tbL_order_k1 : List (Nat × Instr × Nat) := [(103, .invokevirtual 17, 3), (106, .aload_n 0, 1), (107, .iload 8, 2), (109, .bipush 7, 2), (111, .invokevirtual 17, 3), (114, .if_icmp .eq 7, 3), (117, .iconst 1, 1), (118, .goto 4, 3), (121, .iconst 0, 1), (122, .istore 9, 2), (124, .iload 6, 2), (126, .ifCond .le 91, 3), (129, .aload_n 0, 1), (130, .iload 7, 2), (132, .bipush 7, 2), (134, .invokevirtual 17, 3), (137, .aload_n 0, 1), (138, .iload 8, 2), (140, .bipush 7, 2), (142, .invokevirtual 17, 3), (145, .if_icmp .lt 70, 3), (148, .aload_n 0, 1), (149, .iload 7, 2), (151, .bipush 7, 2), (153, .invokevirtual 17, 3), (156, .aload_n 0, 1), (157, .iload 8, 2), (159, .bipush 7, 2), (161, .invokevirtual 17, 3), (164, .iconst 1, 1), (165, .iadd, 1), (166, .if_icmp .gt 49, 3), (169, .iload 9, 2), (171, .ifCond .ne 46, 3), (174, .aload_n 0, 1), (175, .iload 7, 2), (177, .iconst 2, 1), (178, .invokevirtual 17, 3), (181, .aload_n 0, 1), (182, .iload 8, 2), (184, .iconst 2, 1), (185, .invokevirtual 17, 3), (188, .if_icmp .lt 27, 3), (191, .aload_n 0, 1), (192, .iload 7, 2), (194, .iconst 2, 1), (195, .invokevirtual 17, 3), (198, .aload_n 0, 1), (199, .iload 8, 2), (201, .iconst 2, 1), (202, .invokevirtual 17, 3), (205, .if_icmp .ne 12, 3), (208, .iload 7, 2), (210, .iload 8, 2), (212, .if_icmp .ge 5, 3), (215, .iconst 0, 1), (216, .ireturn, 1), (217, .iload 9, 2), (219, .ifCond .ne 17, 3), (222, .aload_n 0, 1)]
set_option maxRecDepth 100000 in
theorem dtL_order_k1 : allD cL_order tbL_order_k1 = true := by decide +kernel
theorem dL_order_103 : decode cL_order 103 = .ok (.invokevirtual 17, 3) := allD_get dtL_order_k1 0 rfl
theorem dL_order_106 : decode cL_order 106 = .ok (.aload_n 0, 1) := allD_get dtL_order_k1 1 rfl
theorem dL_order_107 : decode cL_order 107 = .ok (.iload 8, 2) := allD_get dtL_order_k1 2 rfl
theorem dL_order_109 : decode cL_order 109 = .ok (.bipush 7, 2) := allD_get dtL_order_k1 3 rfl
theorem dL_order_111 : decode cL_order 111 = .ok (.invokevirtual 17, 3) := allD_get dtL_order_k1 4 rfl
theorem dL_order_114 : decode cL_order 114 = .ok (.if_icmp .eq 7, 3) := allD_get dtL_order_k1 5 rfl
theorem dL_order_117 : decode cL_order 117 = .ok (.iconst 1, 1) := allD_get dtL_order_k1 6 rfl
theorem dL_order_118 : decode cL_order 118 = .ok (.goto 4, 3) := allD_get dtL_order_k1 7 rfl
theorem dL_order_121 : decode cL_order 121 = .ok (.iconst 0, 1) := allD_get dtL_order_k1 8 rfl
theorem dL_order_122 : decode cL_order 122 = .ok (.istore 9, 2) := allD_get dtL_order_k1 9 rfl
theorem dL_order_124 : decode cL_order 124 = .ok (.iload 6, 2) := allD_get dtL_order_k1 10 rfl
theorem dL_order_126 : decode cL_order 126 = .ok (.ifCond .le 91, 3) := allD_get dtL_order_k1 11 rfl
theorem dL_order_129 : decode cL_order 129 = .ok (.aload_n 0, 1) := allD_get dtL_order_k1 12 rfl
theorem dL_order_130 : decode cL_order 130 = .ok (.iload 7, 2) := allD_get dtL_order_k1 13 rfl
theorem dL_order_132 : decode cL_order 132 = .ok (.bipush 7, 2) := allD_get dtL_order_k1 14 rfl
theorem dL_order_134 : decode cL_order 134 = .ok (.invokevirtual 17, 3) := allD_get dtL_order_k1 15 rfl
theorem dL_order_137 : decode cL_order 137 = .ok (.aload_n 0, 1) := allD_get dtL_order_k1 16 rfl
theorem dL_order_138 : decode cL_order 138 = .ok (.iload 8, 2) := allD_get dtL_order_k1 17 rfl
theorem dL_order_140 : decode cL_order 140 = .ok (.bipush 7, 2) := allD_get dtL_order_k1 18 rfl
theorem dL_order_142 : decode cL_order 142 = .ok (.invokevirtual 17, 3) := allD_get dtL_order_k1 19 rfl
theorem dL_order_145 : decode cL_order 145 = .ok (.if_icmp .lt 70, 3) := allD_get dtL_order_k1 20 rfl
theorem dL_order_148 : decode cL_order 148 = .ok (.aload_n 0, 1) := allD_get dtL_order_k1 21 rfl
theorem dL_order_149 : decode cL_order 149 = .ok (.iload 7, 2) := allD_get dtL_order_k1 22 rfl
theorem dL_order_151 : decode cL_order 151 = .ok (.bipush 7, 2) := allD_get dtL_order_k1 23 rfl
theorem dL_order_153 : decode cL_order 153 = .ok (.invokevirtual 17, 3) := allD_get dtL_order_k1 24 rfl
theorem dL_order_156 : decode cL_order 156 = .ok (.aload_n 0, 1) := allD_get dtL_order_k1 25 rfl
theorem dL_order_157 : decode cL_order 157 = .ok (.iload 8, 2) := allD_get dtL_order_k1 26 rfl
theorem dL_order_159 : decode cL_order 159 = .ok (.bipush 7, 2) := allD_get dtL_order_k1 27 rfl
theorem dL_order_161 : decode cL_order 161 = .ok (.invokevirtual 17, 3) := allD_get dtL_order_k1 28 rfl
theorem dL_order_164 : decode cL_order 164 = .ok (.iconst 1, 1) := allD_get dtL_order_k1 29 rfl
theorem dL_order_165 : decode cL_order 165 = .ok (.iadd, 1) := allD_get dtL_order_k1 30 rfl
theorem dL_order_166 : decode cL_order 166 = .ok (.if_icmp .gt 49, 3) := allD_get dtL_order_k1 31 rfl
theorem dL_order_169 : decode cL_order 169 = .ok (.iload 9, 2) := allD_get dtL_order_k1 32 rfl
theorem dL_order_171 : decode cL_order 171 = .ok (.ifCond .ne 46, 3) := allD_get dtL_order_k1 33 rfl
theorem dL_order_174 : decode cL_order 174 = .ok (.aload_n 0, 1) := allD_get dtL_order_k1 34 rfl
theorem dL_order_175 : decode cL_order 175 = .ok (.iload 7, 2) := allD_get dtL_order_k1 35 rfl
theorem dL_order_177 : decode cL_order 177 = .ok (.iconst 2, 1) := allD_get dtL_order_k1 36 rfl
theorem dL_order_178 : decode cL_order 178 = .ok (.invokevirtual 17, 3) := allD_get dtL_order_k1 37 rfl
theorem dL_order_181 : decode cL_order 181 = .ok (.aload_n 0, 1) := allD_get dtL_order_k1 38 rfl
theorem dL_order_182 : decode cL_order 182 = .ok (.iload 8, 2) := allD_get dtL_order_k1 39 rfl
theorem dL_order_184 : decode cL_order 184 = .ok (.iconst 2, 1) := allD_get dtL_order_k1 40 rfl
theorem dL_order_185 : decode cL_order 185 = .ok (.invokevirtual 17, 3) := allD_get dtL_order_k1 41 rfl
theorem dL_order_188 : decode cL_order 188 = .ok (.if_icmp .lt 27, 3) := allD_get dtL_order_k1 42 rfl
theorem dL_order_191 : decode cL_order 191 = .ok (.aload_n 0, 1) := allD_get dtL_order_k1 43 rfl
theorem dL_order_192 : decode cL_order 192 = .ok (.iload 7, 2) := allD_get dtL_order_k1 44 rfl
theorem dL_order_194 : decode cL_order 194 = .ok (.iconst 2, 1) := allD_get dtL_order_k1 45 rfl
theorem dL_order_195 : decode cL_order 195 = .ok (.invokevirtual 17, 3) := allD_get dtL_order_k1 46 rfl
theorem dL_order_198 : decode cL_order 198 = .ok (.aload_n 0, 1) := allD_get dtL_order_k1 47 rfl
theorem dL_order_199 : decode cL_order 199 = .ok (.iload 8, 2) := allD_get dtL_order_k1 48 rfl
theorem dL_order_201 : decode cL_order 201 = .ok (.iconst 2, 1) := allD_get dtL_order_k1 49 rfl
theorem dL_order_202 : decode cL_order 202 = .ok (.invokevirtual 17, 3) := allD_get dtL_order_k1 50 rfl
theorem dL_order_205 : decode cL_order 205 = .ok (.if_icmp .ne 12, 3) := allD_get dtL_order_k1 51 rfl
theorem dL_order_208 : decode cL_order 208 = .ok (.iload 7, 2) := allD_get dtL_order_k1 52 rfl
theorem dL_order_210 : decode cL_order 210 = .ok (.iload 8, 2) := allD_get dtL_order_k1 53 rfl
theorem dL_order_212 : decode cL_order 212 = .ok (.if_icmp .ge 5, 3) := allD_get dtL_order_k1 54 rfl
theorem dL_order_215 : decode cL_order 215 = .ok (.iconst 0, 1) := allD_get dtL_order_k1 55 rfl
theorem dL_order_216 : decode cL_order 216 = .ok (.ireturn, 1) := allD_get dtL_order_k1 56 rfl
theorem dL_order_217 : decode cL_order 217 = .ok (.iload 9, 2) := allD_get dtL_order_k1 57 rfl
theorem dL_order_219 : decode cL_order 219 = .ok (.ifCond .ne 17, 3) := allD_get dtL_order_k1 58 rfl
theorem dL_order_222 : decode cL_order 222 = .ok (.aload_n 0, 1) := allD_get dtL_order_k1 59 rfl
def tbL_order_k2 : List (Nat × Instr × Nat) := [(223, .iload 7, 2), (225, .iconst 2, 1), (226, .invokevirtual 17, 3), (229, .iload 5, 2), (231, .iload_n 1, 1), (232, .iadd, 1), (233, .if_icmp .le 7, 3), (236, .iconst 1, 1), (237, .goto 4, 3), (240, .iconst 0, 1), (241, .istore 10, 2), (243, .iload 4, 2), (245, .iload 10, 2), (247, .ifCond .eq 7, 3), (250, .iconst 1, 1), (251, .goto 4, 3), (254, .iconst 0, 1), (255, .iadd, 1), (256, .istore 4, 2), (258, .iload 10, 2), (260, .ifCond .ne 15, 3), (263, .aload_n 0, 1), (264, .iload 7, 2), (266, .iconst 3, 1), (267, .invokevirtual 17, 3), (270, .iload 5, 2), (272, .if_icmp .le 13, 3), (275, .aload_n 0, 1), (276, .iload 7, 2), (278, .iconst 3, 1), (279, .invokevirtual 17, 3), (282, .goto 5, 3), (285, .iload 5, 2), (287, .istore 5, 2), (289, .aload_n 0, 1), (290, .iload 7, 2), (292, .bipush 7, 2), (294, .invokevirtual 17, 3), (297, .istore 11, 2), (299, .aload_n 0, 1), (300, .iload 7, 2), (302, .bipush 8, 2), (304, .invokevirtual 17, 3), (307, .iload 4, 2), (309, .if_icmp .ne 83, 3), (312, .aload_n 0, 1), (313, .iload 4, 2), (315, .iconst 0, 1), (316, .invokevirtual 51, 3), (319, .iload 11, 2), (321, .if_icmp .ne 71, 3), (324, .iload 10, 2), (326, .ifCond .eq 32, 3), (329, .aload_n 0, 1), (330, .iload 4, 2), (332, .iconst 4, 1), (333, .invokevirtual 51, 3), (336, .iload 6, 2), (338, .if_icmp .ne 54, 3), (341, .iload 9, 2)]
set_option maxRecDepth 100000 in
theorem dtL_order_k2 : allD cL_order tbL_order_k2 = true := by decide +kernel
theorem dL_order_223 : decode cL_order 223 = .ok (.iload 7, 2) := allD_get dtL_order_k2 0 rfl
theorem dL_order_225 : decode cL_order 225 = .ok (.iconst 2, 1) := allD_get dtL_order_k2 1 rfl
theorem dL_order_226 : decode cL_order 226 = .ok (.invokevirtual 17, 3) := allD_get dtL_order_k2 2 rfl
theorem dL_order_229 : decode cL_order 229 = .ok (.iload 5, 2) := allD_get dtL_order_k2 3 rfl
theorem dL_order_231 : decode cL_order 231 = .ok (.iload_n 1, 1) := allD_get dtL_order_k2 4 rfl
theorem dL_order_232 : decode cL_order 232 = .ok (.iadd, 1) := allD_get dtL_order_k2 5 rfl
theorem dL_order_233 : decode cL_order 233 = .ok (.if_icmp .le 7, 3) := allD_get dtL_order_k2 6 rfl
theorem dL_order_236 : decode cL_order 236 = .ok (.iconst 1, 1) := allD_get dtL_order_k2 7 rfl
theorem dL_order_237 : decode cL_order 237 = .ok (.goto 4, 3) := allD_get dtL_order_k2 8 rfl
theorem dL_order_240 : decode cL_order 240 = .ok (.iconst 0, 1) := allD_get dtL_order_k2 9 rfl
theorem dL_order_241 : decode cL_order 241 = .ok (.istore 10, 2) := allD_get dtL_order_k2 10 rfl
theorem dL_order_243 : decode cL_order 243 = .ok (.iload 4, 2) := allD_get dtL_order_k2 11 rfl
theorem dL_order_245 : decode cL_order 245 = .ok (.iload 10, 2) := allD_get dtL_order_k2 12 rfl
theorem dL_order_247 : decode cL_order 247 = .ok (.ifCond .eq 7, 3) := allD_get dtL_order_k2 13 rfl
theorem dL_order_250 : decode cL_order 250 = .ok (.iconst 1, 1) := allD_get dtL_order_k2 14 rfl
theorem dL_order_251 : decode cL_order 251 = .ok (.goto 4, 3) := allD_get dtL_order_k2 15 rfl
theorem dL_order_254 : decode cL_order 254 = .ok (.iconst 0, 1) := allD_get dtL_order_k2 16 rfl
theorem dL_order_255 : decode cL_order 255 = .ok (.iadd, 1) := allD_get dtL_order_k2 17 rfl
theorem dL_order_256 : decode cL_order 256 = .ok (.istore 4, 2) := allD_get dtL_order_k2 18 rfl
theorem dL_order_258 : decode cL_order 258 = .ok (.iload 10, 2) := allD_get dtL_order_k2 19 rfl
theorem dL_order_260 : decode cL_order 260 = .ok (.ifCond .ne 15, 3) := allD_get dtL_order_k2 20 rfl
theorem dL_order_263 : decode cL_order 263 = .ok (.aload_n 0, 1) := allD_get dtL_order_k2 21 rfl
theorem dL_order_264 : decode cL_order 264 = .ok (.iload 7, 2) := allD_get dtL_order_k2 22 rfl
theorem dL_order_266 : decode cL_order 266 = .ok (.iconst 3, 1) := allD_get dtL_order_k2 23 rfl
theorem dL_order_267 : decode cL_order 267 = .ok (.invokevirtual 17, 3) := allD_get dtL_order_k2 24 rfl
theorem dL_order_270 : decode cL_order 270 = .ok (.iload 5, 2) := allD_get dtL_order_k2 25 rfl
theorem dL_order_272 : decode cL_order 272 = .ok (.if_icmp .le 13, 3) := allD_get dtL_order_k2 26 rfl
theorem dL_order_275 : decode cL_order 275 = .ok (.aload_n 0, 1) := allD_get dtL_order_k2 27 rfl
theorem dL_order_276 : decode cL_order 276 = .ok (.iload 7, 2) := allD_get dtL_order_k2 28 rfl
theorem dL_order_278 : decode cL_order 278 = .ok (.iconst 3, 1) := allD_get dtL_order_k2 29 rfl
theorem dL_order_279 : decode cL_order 279 = .ok (.invokevirtual 17, 3) := allD_get dtL_order_k2 30 rfl
theorem dL_order_282 : decode cL_order 282 = .ok (.goto 5, 3) := allD_get dtL_order_k2 31 rfl
theorem dL_order_285 : decode cL_order 285 = .ok (.iload 5, 2) := allD_get dtL_order_k2 32 rfl
theorem dL_order_287 : decode cL_order 287 = .ok (.istore 5, 2) := allD_get dtL_order_k2 33 rfl
theorem dL_order_289 : decode cL_order 289 = .ok (.aload_n 0, 1) := allD_get dtL_order_k2 34 rfl
theorem dL_order_290 : decode cL_order 290 = .ok (.iload 7, 2) := allD_get dtL_order_k2 35 rfl
theorem dL_order_292 : decode cL_order 292 = .ok (.bipush 7, 2) := allD_get dtL_order_k2 36 rfl
theorem dL_order_294 : decode cL_order 294 = .ok (.invokevirtual 17, 3) := allD_get dtL_order_k2 37 rfl
theorem dL_order_297 : decode cL_order 297 = .ok (.istore 11, 2) := allD_get dtL_order_k2 38 rfl
theorem dL_order_299 : decode cL_order 299 = .ok (.aload_n 0, 1) := allD_get dtL_order_k2 39 rfl
theorem dL_order_300 : decode cL_order 300 = .ok (.iload 7, 2) := allD_get dtL_order_k2 40 rfl
theorem dL_order_302 : decode cL_order 302 = .ok (.bipush 8, 2) := allD_get dtL_order_k2 41 rfl
theorem dL_order_304 : decode cL_order 304 = .ok (.invokevirtual 17, 3) := allD_get dtL_order_k2 42 rfl
theorem dL_order_307 : decode cL_order 307 = .ok (.iload 4, 2) := allD_get dtL_order_k2 43 rfl
theorem dL_order_309 : decode cL_order 309 = .ok (.if_icmp .ne 83, 3) := allD_get dtL_order_k2 44 rfl
theorem dL_order_312 : decode cL_order 312 = .ok (.aload_n 0, 1) := allD_get dtL_order_k2 45 rfl
theorem dL_order_313 : decode cL_order 313 = .ok (.iload 4, 2) := allD_get dtL_order_k2 46 rfl
theorem dL_order_315 : decode cL_order 315 = .ok (.iconst 0, 1) := allD_get dtL_order_k2 47 rfl
theorem dL_order_316 : decode cL_order 316 = .ok (.invokevirtual 51, 3) := allD_get dtL_order_k2 48 rfl
theorem dL_order_319 : decode cL_order 319 = .ok (.iload 11, 2) := allD_get dtL_order_k2 49 rfl
theorem dL_order_321 : decode cL_order 321 = .ok (.if_icmp .ne 71, 3) := allD_get dtL_order_k2 50 rfl
theorem dL_order_324 : decode cL_order 324 = .ok (.iload 10, 2) := allD_get dtL_order_k2 51 rfl
theorem dL_order_326 : decode cL_order 326 = .ok (.ifCond .eq 32, 3) := allD_get dtL_order_k2 52 rfl
theorem dL_order_329 : decode cL_order 329 = .ok (.aload_n 0, 1) := allD_get dtL_order_k2 53 rfl
theorem dL_order_330 : decode cL_order 330 = .ok (.iload 4, 2) := allD_get dtL_order_k2 54 rfl
theorem dL_order_332 : decode cL_order 332 = .ok (.iconst 4, 1) := allD_get dtL_order_k2 55 rfl
theorem dL_order_333 : decode cL_order 333 = .ok (.invokevirtual 51, 3) := allD_get dtL_order_k2 56 rfl
theorem dL_order_336 : decode cL_order 336 = .ok (.iload 6, 2) := allD_get dtL_order_k2 57 rfl
theorem dL_order_338 : decode cL_order 338 = .ok (.if_icmp .ne 54, 3) := allD_get dtL_order_k2 58 rfl
theorem dL_order_341 : decode cL_order 341 = .ok (.iload 9, 2) := allD_get dtL_order_k2 59 rfl
def tbL_order_k3 : List (Nat × Instr × Nat) := [(343, .ifCond .eq 15, 3), (346, .aload_n 0, 1), (347, .iload 11, 2), (349, .iconst 4, 1), (350, .invokevirtual 54, 3), (353, .iload 4, 2), (355, .if_icmp .ne 37, 3), (358, .aload_n 0, 1), (359, .iload 11, 2), (361, .iconst 0, 1), (362, .invokevirtual 54, 3), (365, .aload_n 0, 1), (366, .iload 7, 2), (368, .iconst 4, 1), (369, .invokevirtual 17, 3), (372, .if_icmp .gt 20, 3), (375, .aload_n 0, 1), (376, .iload 11, 2), (378, .iconst 1, 1), (379, .invokevirtual 54, 3), (382, .aload_n 0, 1), (383, .iload 7, 2), (385, .iconst 5, 1), (386, .invokevirtual 17, 3), (389, .if_icmp .ge 5, 3), (392, .iconst 0, 1), (393, .ireturn, 1), (394, .iinc 6 1, 3), (397, .goto (-380), 3), (400, .iconst 0, 1), (401, .istore 6, 2), (403, .iconst 0, 1), (404, .istore 7, 2), (406, .iconst 0, 1), (407, .istore 8, 2), (409, .iload 8, 2), (411, .aload_n 0, 1), (412, .iconst 3, 1), (413, .invokevirtual 9, 3), (416, .if_icmp .ge 109, 3), (419, .iload 6, 2), (421, .aload_n 0, 1), (422, .iload 8, 2), (424, .iconst 2, 1), (425, .invokevirtual 54, 3), (428, .iadd, 1), (429, .istore 6, 2), (431, .iload 7, 2), (433, .aload_n 0, 1), (434, .iload 8, 2), (436, .iconst 3, 1), (437, .invokevirtual 54, 3), (440, .iadd, 1), (441, .istore 7, 2), (443, .iload 8, 2), (445, .ifCond .le 60, 3), (448, .aload_n 0, 1), (449, .iload 8, 2), (451, .iconst 0, 1), (452, .invokevirtual 54, 3)]
set_option maxRecDepth 100000 in
theorem dtL_order_k3 : allD cL_order tbL_order_k3 = true := by decide +kernel
theorem dL_order_343 : decode cL_order 343 = .ok (.ifCond .eq 15, 3) := allD_get dtL_order_k3 0 rfl
theorem dL_order_346 : decode cL_order 346 = .ok (.aload_n 0, 1) := allD_get dtL_order_k3 1 rfl
theorem dL_order_347 : decode cL_order 347 = .ok (.iload 11, 2) := allD_get dtL_order_k3 2 rfl
theorem dL_order_349 : decode cL_order 349 = .ok (.iconst 4, 1) := allD_get dtL_order_k3 3 rfl
theorem dL_order_350 : decode cL_order 350 = .ok (.invokevirtual 54, 3) := allD_get dtL_order_k3 4 rfl
theorem dL_order_353 : decode cL_order 353 = .ok (.iload 4, 2) := allD_get dtL_order_k3 5 rfl
theorem dL_order_355 : decode cL_order 355 = .ok (.if_icmp .ne 37, 3) := allD_get dtL_order_k3 6 rfl
theorem dL_order_358 : decode cL_order 358 = .ok (.aload_n 0, 1) := allD_get dtL_order_k3 7 rfl
theorem dL_order_359 : decode cL_order 359 = .ok (.iload 11, 2) := allD_get dtL_order_k3 8 rfl
theorem dL_order_361 : decode cL_order 361 = .ok (.iconst 0, 1) := allD_get dtL_order_k3 9 rfl
theorem dL_order_362 : decode cL_order 362 = .ok (.invokevirtual 54, 3) := allD_get dtL_order_k3 10 rfl
theorem dL_order_365 : decode cL_order 365 = .ok (.aload_n 0, 1) := allD_get dtL_order_k3 11 rfl
theorem dL_order_366 : decode cL_order 366 = .ok (.iload 7, 2) := allD_get dtL_order_k3 12 rfl
theorem dL_order_368 : decode cL_order 368 = .ok (.iconst 4, 1) := allD_get dtL_order_k3 13 rfl
theorem dL_order_369 : decode cL_order 369 = .ok (.invokevirtual 17, 3) := allD_get dtL_order_k3 14 rfl
theorem dL_order_372 : decode cL_order 372 = .ok (.if_icmp .gt 20, 3) := allD_get dtL_order_k3 15 rfl
theorem dL_order_375 : decode cL_order 375 = .ok (.aload_n 0, 1) := allD_get dtL_order_k3 16 rfl
theorem dL_order_376 : decode cL_order 376 = .ok (.iload 11, 2) := allD_get dtL_order_k3 17 rfl
theorem dL_order_378 : decode cL_order 378 = .ok (.iconst 1, 1) := allD_get dtL_order_k3 18 rfl
theorem dL_order_379 : decode cL_order 379 = .ok (.invokevirtual 54, 3) := allD_get dtL_order_k3 19 rfl
theorem dL_order_382 : decode cL_order 382 = .ok (.aload_n 0, 1) := allD_get dtL_order_k3 20 rfl
theorem dL_order_383 : decode cL_order 383 = .ok (.iload 7, 2) := allD_get dtL_order_k3 21 rfl
theorem dL_order_385 : decode cL_order 385 = .ok (.iconst 5, 1) := allD_get dtL_order_k3 22 rfl
theorem dL_order_386 : decode cL_order 386 = .ok (.invokevirtual 17, 3) := allD_get dtL_order_k3 23 rfl
theorem dL_order_389 : decode cL_order 389 = .ok (.if_icmp .ge 5, 3) := allD_get dtL_order_k3 24 rfl
theorem dL_order_392 : decode cL_order 392 = .ok (.iconst 0, 1) := allD_get dtL_order_k3 25 rfl
theorem dL_order_393 : decode cL_order 393 = .ok (.ireturn, 1) := allD_get dtL_order_k3 26 rfl
theorem dL_order_394 : decode cL_order 394 = .ok (.iinc 6 1, 3) := allD_get dtL_order_k3 27 rfl
theorem dL_order_397 : decode cL_order 397 = .ok (.goto (-380), 3) := allD_get dtL_order_k3 28 rfl
theorem dL_order_400 : decode cL_order 400 = .ok (.iconst 0, 1) := allD_get dtL_order_k3 29 rfl
theorem dL_order_401 : decode cL_order 401 = .ok (.istore 6, 2) := allD_get dtL_order_k3 30 rfl
theorem dL_order_403 : decode cL_order 403 = .ok (.iconst 0, 1) := allD_get dtL_order_k3 31 rfl
theorem dL_order_404 : decode cL_order 404 = .ok (.istore 7, 2) := allD_get dtL_order_k3 32 rfl
theorem dL_order_406 : decode cL_order 406 = .ok (.iconst 0, 1) := allD_get dtL_order_k3 33 rfl
theorem dL_order_407 : decode cL_order 407 = .ok (.istore 8, 2) := allD_get dtL_order_k3 34 rfl
theorem dL_order_409 : decode cL_order 409 = .ok (.iload 8, 2) := allD_get dtL_order_k3 35 rfl
theorem dL_order_411 : decode cL_order 411 = .ok (.aload_n 0, 1) := allD_get dtL_order_k3 36 rfl
theorem dL_order_412 : decode cL_order 412 = .ok (.iconst 3, 1) := allD_get dtL_order_k3 37 rfl
theorem dL_order_413 : decode cL_order 413 = .ok (.invokevirtual 9, 3) := allD_get dtL_order_k3 38 rfl
theorem dL_order_416 : decode cL_order 416 = .ok (.if_icmp .ge 109, 3) := allD_get dtL_order_k3 39 rfl
theorem dL_order_419 : decode cL_order 419 = .ok (.iload 6, 2) := allD_get dtL_order_k3 40 rfl
theorem dL_order_421 : decode cL_order 421 = .ok (.aload_n 0, 1) := allD_get dtL_order_k3 41 rfl
theorem dL_order_422 : decode cL_order 422 = .ok (.iload 8, 2) := allD_get dtL_order_k3 42 rfl
theorem dL_order_424 : decode cL_order 424 = .ok (.iconst 2, 1) := allD_get dtL_order_k3 43 rfl
theorem dL_order_425 : decode cL_order 425 = .ok (.invokevirtual 54, 3) := allD_get dtL_order_k3 44 rfl
theorem dL_order_428 : decode cL_order 428 = .ok (.iadd, 1) := allD_get dtL_order_k3 45 rfl
theorem dL_order_429 : decode cL_order 429 = .ok (.istore 6, 2) := allD_get dtL_order_k3 46 rfl
theorem dL_order_431 : decode cL_order 431 = .ok (.iload 7, 2) := allD_get dtL_order_k3 47 rfl
theorem dL_order_433 : decode cL_order 433 = .ok (.aload_n 0, 1) := allD_get dtL_order_k3 48 rfl
theorem dL_order_434 : decode cL_order 434 = .ok (.iload 8, 2) := allD_get dtL_order_k3 49 rfl
theorem dL_order_436 : decode cL_order 436 = .ok (.iconst 3, 1) := allD_get dtL_order_k3 50 rfl
theorem dL_order_437 : decode cL_order 437 = .ok (.invokevirtual 54, 3) := allD_get dtL_order_k3 51 rfl
theorem dL_order_440 : decode cL_order 440 = .ok (.iadd, 1) := allD_get dtL_order_k3 52 rfl
theorem dL_order_441 : decode cL_order 441 = .ok (.istore 7, 2) := allD_get dtL_order_k3 53 rfl
theorem dL_order_443 : decode cL_order 443 = .ok (.iload 8, 2) := allD_get dtL_order_k3 54 rfl
theorem dL_order_445 : decode cL_order 445 = .ok (.ifCond .le 60, 3) := allD_get dtL_order_k3 55 rfl
theorem dL_order_448 : decode cL_order 448 = .ok (.aload_n 0, 1) := allD_get dtL_order_k3 56 rfl
theorem dL_order_449 : decode cL_order 449 = .ok (.iload 8, 2) := allD_get dtL_order_k3 57 rfl
theorem dL_order_451 : decode cL_order 451 = .ok (.iconst 0, 1) := allD_get dtL_order_k3 58 rfl
theorem dL_order_452 : decode cL_order 452 = .ok (.invokevirtual 54, 3) := allD_get dtL_order_k3 59 rfl
def tbL_order_k4 : List (Nat × Instr × Nat) := [(455, .aload_n 0, 1), (456, .iload 8, 2), (458, .iconst 1, 1), (459, .isub, 1), (460, .iconst 0, 1), (461, .invokevirtual 54, 3), (464, .if_icmp .lt 53, 3), (467, .aload_n 0, 1), (468, .iload 8, 2), (470, .iconst 0, 1), (471, .invokevirtual 54, 3), (474, .aload_n 0, 1), (475, .iload 8, 2), (477, .iconst 1, 1), (478, .isub, 1), (479, .iconst 0, 1), (480, .invokevirtual 54, 3), (483, .if_icmp .ne 22, 3), (486, .aload_n 0, 1), (487, .iload 8, 2), (489, .iconst 1, 1), (490, .invokevirtual 54, 3), (493, .aload_n 0, 1), (494, .iload 8, 2), (496, .iconst 1, 1), (497, .isub, 1), (498, .iconst 1, 1), (499, .invokevirtual 54, 3), (502, .if_icmp .lt 15, 3), (505, .aload_n 0, 1), (506, .iload 8, 2), (508, .iconst 5, 1), (509, .invokevirtual 54, 3), (512, .bipush (-2), 2), (514, .if_icmp .eq 5, 3), (517, .iconst 0, 1), (518, .ireturn, 1), (519, .iinc 8 1, 3), (522, .goto (-113), 3), (525, .iconst 0, 1), (526, .istore 8, 2), (528, .iconst 0, 1), (529, .istore 9, 2), (531, .iload 9, 2), (533, .aload_n 0, 1), (534, .iconst 4, 1), (535, .invokevirtual 9, 3), (538, .if_icmp .ge 52, 3), (541, .iload 8, 2), (543, .aload_n 0, 1), (544, .iload 9, 2), (546, .iconst 1, 1), (547, .invokevirtual 51, 3), (550, .iadd, 1), (551, .istore 8, 2), (553, .aload_n 0, 1), (554, .iload 9, 2), (556, .iconst 2, 1), (557, .invokevirtual 51, 3), (560, .aload_n 0, 1)]
set_option maxRecDepth 100000 in
theorem dtL_order_k4 : allD cL_order tbL_order_k4 = true := by decide +kernel
theorem dL_order_455 : decode cL_order 455 = .ok (.aload_n 0, 1) := allD_get dtL_order_k4 0 rfl
theorem dL_order_456 : decode cL_order 456 = .ok (.iload 8, 2) := allD_get dtL_order_k4 1 rfl
theorem dL_order_458 : decode cL_order 458 = .ok (.iconst 1, 1) := allD_get dtL_order_k4 2 rfl
theorem dL_order_459 : decode cL_order 459 = .ok (.isub, 1) := allD_get dtL_order_k4 3 rfl
theorem dL_order_460 : decode cL_order 460 = .ok (.iconst 0, 1) := allD_get dtL_order_k4 4 rfl
theorem dL_order_461 : decode cL_order 461 = .ok (.invokevirtual 54, 3) := allD_get dtL_order_k4 5 rfl
theorem dL_order_464 : decode cL_order 464 = .ok (.if_icmp .lt 53, 3) := allD_get dtL_order_k4 6 rfl
theorem dL_order_467 : decode cL_order 467 = .ok (.aload_n 0, 1) := allD_get dtL_order_k4 7 rfl
theorem dL_order_468 : decode cL_order 468 = .ok (.iload 8, 2) := allD_get dtL_order_k4 8 rfl
theorem dL_order_470 : decode cL_order 470 = .ok (.iconst 0, 1) := allD_get dtL_order_k4 9 rfl
theorem dL_order_471 : decode cL_order 471 = .ok (.invokevirtual 54, 3) := allD_get dtL_order_k4 10 rfl
theorem dL_order_474 : decode cL_order 474 = .ok (.aload_n 0, 1) := allD_get dtL_order_k4 11 rfl
theorem dL_order_475 : decode cL_order 475 = .ok (.iload 8, 2) := allD_get dtL_order_k4 12 rfl
theorem dL_order_477 : decode cL_order 477 = .ok (.iconst 1, 1) := allD_get dtL_order_k4 13 rfl
theorem dL_order_478 : decode cL_order 478 = .ok (.isub, 1) := allD_get dtL_order_k4 14 rfl
theorem dL_order_479 : decode cL_order 479 = .ok (.iconst 0, 1) := allD_get dtL_order_k4 15 rfl
theorem dL_order_480 : decode cL_order 480 = .ok (.invokevirtual 54, 3) := allD_get dtL_order_k4 16 rfl
theorem dL_order_483 : decode cL_order 483 = .ok (.if_icmp .ne 22, 3) := allD_get dtL_order_k4 17 rfl
theorem dL_order_486 : decode cL_order 486 = .ok (.aload_n 0, 1) := allD_get dtL_order_k4 18 rfl
theorem dL_order_487 : decode cL_order 487 = .ok (.iload 8, 2) := allD_get dtL_order_k4 19 rfl
theorem dL_order_489 : decode cL_order 489 = .ok (.iconst 1, 1) := allD_get dtL_order_k4 20 rfl
theorem dL_order_490 : decode cL_order 490 = .ok (.invokevirtual 54, 3) := allD_get dtL_order_k4 21 rfl
theorem dL_order_493 : decode cL_order 493 = .ok (.aload_n 0, 1) := allD_get dtL_order_k4 22 rfl
theorem dL_order_494 : decode cL_order 494 = .ok (.iload 8, 2) := allD_get dtL_order_k4 23 rfl
theorem dL_order_496 : decode cL_order 496 = .ok (.iconst 1, 1) := allD_get dtL_order_k4 24 rfl
theorem dL_order_497 : decode cL_order 497 = .ok (.isub, 1) := allD_get dtL_order_k4 25 rfl
theorem dL_order_498 : decode cL_order 498 = .ok (.iconst 1, 1) := allD_get dtL_order_k4 26 rfl
theorem dL_order_499 : decode cL_order 499 = .ok (.invokevirtual 54, 3) := allD_get dtL_order_k4 27 rfl
theorem dL_order_502 : decode cL_order 502 = .ok (.if_icmp .lt 15, 3) := allD_get dtL_order_k4 28 rfl
theorem dL_order_505 : decode cL_order 505 = .ok (.aload_n 0, 1) := allD_get dtL_order_k4 29 rfl
theorem dL_order_506 : decode cL_order 506 = .ok (.iload 8, 2) := allD_get dtL_order_k4 30 rfl
theorem dL_order_508 : decode cL_order 508 = .ok (.iconst 5, 1) := allD_get dtL_order_k4 31 rfl
theorem dL_order_509 : decode cL_order 509 = .ok (.invokevirtual 54, 3) := allD_get dtL_order_k4 32 rfl
theorem dL_order_512 : decode cL_order 512 = .ok (.bipush (-2), 2) := allD_get dtL_order_k4 33 rfl
theorem dL_order_514 : decode cL_order 514 = .ok (.if_icmp .eq 5, 3) := allD_get dtL_order_k4 34 rfl
theorem dL_order_517 : decode cL_order 517 = .ok (.iconst 0, 1) := allD_get dtL_order_k4 35 rfl
theorem dL_order_518 : decode cL_order 518 = .ok (.ireturn, 1) := allD_get dtL_order_k4 36 rfl
theorem dL_order_519 : decode cL_order 519 = .ok (.iinc 8 1, 3) := allD_get dtL_order_k4 37 rfl
theorem dL_order_522 : decode cL_order 522 = .ok (.goto (-113), 3) := allD_get dtL_order_k4 38 rfl
theorem dL_order_525 : decode cL_order 525 = .ok (.iconst 0, 1) := allD_get dtL_order_k4 39 rfl
theorem dL_order_526 : decode cL_order 526 = .ok (.istore 8, 2) := allD_get dtL_order_k4 40 rfl
theorem dL_order_528 : decode cL_order 528 = .ok (.iconst 0, 1) := allD_get dtL_order_k4 41 rfl
theorem dL_order_529 : decode cL_order 529 = .ok (.istore 9, 2) := allD_get dtL_order_k4 42 rfl
theorem dL_order_531 : decode cL_order 531 = .ok (.iload 9, 2) := allD_get dtL_order_k4 43 rfl
theorem dL_order_533 : decode cL_order 533 = .ok (.aload_n 0, 1) := allD_get dtL_order_k4 44 rfl
theorem dL_order_534 : decode cL_order 534 = .ok (.iconst 4, 1) := allD_get dtL_order_k4 45 rfl
theorem dL_order_535 : decode cL_order 535 = .ok (.invokevirtual 9, 3) := allD_get dtL_order_k4 46 rfl
theorem dL_order_538 : decode cL_order 538 = .ok (.if_icmp .ge 52, 3) := allD_get dtL_order_k4 47 rfl
theorem dL_order_541 : decode cL_order 541 = .ok (.iload 8, 2) := allD_get dtL_order_k4 48 rfl
theorem dL_order_543 : decode cL_order 543 = .ok (.aload_n 0, 1) := allD_get dtL_order_k4 49 rfl
theorem dL_order_544 : decode cL_order 544 = .ok (.iload 9, 2) := allD_get dtL_order_k4 50 rfl
theorem dL_order_546 : decode cL_order 546 = .ok (.iconst 1, 1) := allD_get dtL_order_k4 51 rfl
theorem dL_order_547 : decode cL_order 547 = .ok (.invokevirtual 51, 3) := allD_get dtL_order_k4 52 rfl
theorem dL_order_550 : decode cL_order 550 = .ok (.iadd, 1) := allD_get dtL_order_k4 53 rfl
theorem dL_order_551 : decode cL_order 551 = .ok (.istore 8, 2) := allD_get dtL_order_k4 54 rfl
theorem dL_order_553 : decode cL_order 553 = .ok (.aload_n 0, 1) := allD_get dtL_order_k4 55 rfl
theorem dL_order_554 : decode cL_order 554 = .ok (.iload 9, 2) := allD_get dtL_order_k4 56 rfl
theorem dL_order_556 : decode cL_order 556 = .ok (.iconst 2, 1) := allD_get dtL_order_k4 57 rfl
theorem dL_order_557 : decode cL_order 557 = .ok (.invokevirtual 51, 3) := allD_get dtL_order_k4 58 rfl
theorem dL_order_560 : decode cL_order 560 = .ok (.aload_n 0, 1) := allD_get dtL_order_k4 59 rfl
def tbL_order_k5 : List (Nat × Instr × Nat) := [(561, .iload 9, 2), (563, .iconst 3, 1), (564, .invokevirtual 51, 3), (567, .if_icmp .gt 15, 3), (570, .aload_n 0, 1), (571, .iload 9, 2), (573, .iconst 5, 1), (574, .invokevirtual 51, 3), (577, .bipush (-2), 2), (579, .if_icmp .eq 5, 3), (582, .iconst 0, 1), (583, .ireturn, 1), (584, .iinc 9 1, 3), (587, .goto (-56), 3), (590, .iload 6, 2), (592, .iload_n 2, 1), (593, .if_icmp .ne 83, 3), (596, .iload 8, 2), (598, .iload_n 2, 1), (599, .if_icmp .ne 77, 3), (602, .iload 7, 2), (604, .aload_n 0, 1), (605, .iconst 4, 1), (606, .invokevirtual 9, 3), (609, .if_icmp .ne 67, 3), (612, .aload_n 0, 1), (613, .iconst 4, 1), (614, .invokevirtual 9, 3), (617, .iload 4, 2), (619, .iconst 1, 1), (620, .iadd, 1), (621, .if_icmp .ne 55, 3), (624, .aload_n 0, 1), (625, .iload_n 2, 1), (626, .invokevirtual 48, 3), (629, .bipush (-5), 2), (631, .if_icmp .ne 45, 3), (634, .aload_n 0, 1), (635, .iconst (-1), 1), (636, .invokevirtual 48, 3), (639, .bipush (-2), 2), (641, .if_icmp .ne 35, 3), (644, .aload_n 0, 1), (645, .aload_n 0, 1), (646, .iconst 3, 1), (647, .invokevirtual 9, 3), (650, .iconst 0, 1), (651, .invokevirtual 54, 3), (654, .iconst (-1), 1), (655, .if_icmp .ne 21, 3), (658, .aload_n 0, 1), (659, .aload_n 0, 1), (660, .iconst 4, 1), (661, .invokevirtual 9, 3), (664, .iconst 0, 1), (665, .invokevirtual 51, 3), (668, .iconst (-1), 1), (669, .if_icmp .ne 7, 3), (672, .iconst 1, 1), (673, .goto 4, 3)]
set_option maxRecDepth 100000 in
theorem dtL_order_k5 : allD cL_order tbL_order_k5 = true := by decide +kernel
theorem dL_order_561 : decode cL_order 561 = .ok (.iload 9, 2) := allD_get dtL_order_k5 0 rfl
theorem dL_order_563 : decode cL_order 563 = .ok (.iconst 3, 1) := allD_get dtL_order_k5 1 rfl
theorem dL_order_564 : decode cL_order 564 = .ok (.invokevirtual 51, 3) := allD_get dtL_order_k5 2 rfl
theorem dL_order_567 : decode cL_order 567 = .ok (.if_icmp .gt 15, 3) := allD_get dtL_order_k5 3 rfl
theorem dL_order_570 : decode cL_order 570 = .ok (.aload_n 0, 1) := allD_get dtL_order_k5 4 rfl
theorem dL_order_571 : decode cL_order 571 = .ok (.iload 9, 2) := allD_get dtL_order_k5 5 rfl
theorem dL_order_573 : decode cL_order 573 = .ok (.iconst 5, 1) := allD_get dtL_order_k5 6 rfl
theorem dL_order_574 : decode cL_order 574 = .ok (.invokevirtual 51, 3) := allD_get dtL_order_k5 7 rfl
theorem dL_order_577 : decode cL_order 577 = .ok (.bipush (-2), 2) := allD_get dtL_order_k5 8 rfl
theorem dL_order_579 : decode cL_order 579 = .ok (.if_icmp .eq 5, 3) := allD_get dtL_order_k5 9 rfl
theorem dL_order_582 : decode cL_order 582 = .ok (.iconst 0, 1) := allD_get dtL_order_k5 10 rfl
theorem dL_order_583 : decode cL_order 583 = .ok (.ireturn, 1) := allD_get dtL_order_k5 11 rfl
theorem dL_order_584 : decode cL_order 584 = .ok (.iinc 9 1, 3) := allD_get dtL_order_k5 12 rfl
theorem dL_order_587 : decode cL_order 587 = .ok (.goto (-56), 3) := allD_get dtL_order_k5 13 rfl
theorem dL_order_590 : decode cL_order 590 = .ok (.iload 6, 2) := allD_get dtL_order_k5 14 rfl
theorem dL_order_592 : decode cL_order 592 = .ok (.iload_n 2, 1) := allD_get dtL_order_k5 15 rfl
theorem dL_order_593 : decode cL_order 593 = .ok (.if_icmp .ne 83, 3) := allD_get dtL_order_k5 16 rfl
theorem dL_order_596 : decode cL_order 596 = .ok (.iload 8, 2) := allD_get dtL_order_k5 17 rfl
theorem dL_order_598 : decode cL_order 598 = .ok (.iload_n 2, 1) := allD_get dtL_order_k5 18 rfl
theorem dL_order_599 : decode cL_order 599 = .ok (.if_icmp .ne 77, 3) := allD_get dtL_order_k5 19 rfl
theorem dL_order_602 : decode cL_order 602 = .ok (.iload 7, 2) := allD_get dtL_order_k5 20 rfl
theorem dL_order_604 : decode cL_order 604 = .ok (.aload_n 0, 1) := allD_get dtL_order_k5 21 rfl
theorem dL_order_605 : decode cL_order 605 = .ok (.iconst 4, 1) := allD_get dtL_order_k5 22 rfl
theorem dL_order_606 : decode cL_order 606 = .ok (.invokevirtual 9, 3) := allD_get dtL_order_k5 23 rfl
theorem dL_order_609 : decode cL_order 609 = .ok (.if_icmp .ne 67, 3) := allD_get dtL_order_k5 24 rfl
theorem dL_order_612 : decode cL_order 612 = .ok (.aload_n 0, 1) := allD_get dtL_order_k5 25 rfl
theorem dL_order_613 : decode cL_order 613 = .ok (.iconst 4, 1) := allD_get dtL_order_k5 26 rfl
theorem dL_order_614 : decode cL_order 614 = .ok (.invokevirtual 9, 3) := allD_get dtL_order_k5 27 rfl
theorem dL_order_617 : decode cL_order 617 = .ok (.iload 4, 2) := allD_get dtL_order_k5 28 rfl
theorem dL_order_619 : decode cL_order 619 = .ok (.iconst 1, 1) := allD_get dtL_order_k5 29 rfl
theorem dL_order_620 : decode cL_order 620 = .ok (.iadd, 1) := allD_get dtL_order_k5 30 rfl
theorem dL_order_621 : decode cL_order 621 = .ok (.if_icmp .ne 55, 3) := allD_get dtL_order_k5 31 rfl
theorem dL_order_624 : decode cL_order 624 = .ok (.aload_n 0, 1) := allD_get dtL_order_k5 32 rfl
theorem dL_order_625 : decode cL_order 625 = .ok (.iload_n 2, 1) := allD_get dtL_order_k5 33 rfl
theorem dL_order_626 : decode cL_order 626 = .ok (.invokevirtual 48, 3) := allD_get dtL_order_k5 34 rfl
theorem dL_order_629 : decode cL_order 629 = .ok (.bipush (-5), 2) := allD_get dtL_order_k5 35 rfl
theorem dL_order_631 : decode cL_order 631 = .ok (.if_icmp .ne 45, 3) := allD_get dtL_order_k5 36 rfl
theorem dL_order_634 : decode cL_order 634 = .ok (.aload_n 0, 1) := allD_get dtL_order_k5 37 rfl
theorem dL_order_635 : decode cL_order 635 = .ok (.iconst (-1), 1) := allD_get dtL_order_k5 38 rfl
theorem dL_order_636 : decode cL_order 636 = .ok (.invokevirtual 48, 3) := allD_get dtL_order_k5 39 rfl
theorem dL_order_639 : decode cL_order 639 = .ok (.bipush (-2), 2) := allD_get dtL_order_k5 40 rfl
theorem dL_order_641 : decode cL_order 641 = .ok (.if_icmp .ne 35, 3) := allD_get dtL_order_k5 41 rfl
theorem dL_order_644 : decode cL_order 644 = .ok (.aload_n 0, 1) := allD_get dtL_order_k5 42 rfl
theorem dL_order_645 : decode cL_order 645 = .ok (.aload_n 0, 1) := allD_get dtL_order_k5 43 rfl
theorem dL_order_646 : decode cL_order 646 = .ok (.iconst 3, 1) := allD_get dtL_order_k5 44 rfl
theorem dL_order_647 : decode cL_order 647 = .ok (.invokevirtual 9, 3) := allD_get dtL_order_k5 45 rfl
theorem dL_order_650 : decode cL_order 650 = .ok (.iconst 0, 1) := allD_get dtL_order_k5 46 rfl
theorem dL_order_651 : decode cL_order 651 = .ok (.invokevirtual 54, 3) := allD_get dtL_order_k5 47 rfl
theorem dL_order_654 : decode cL_order 654 = .ok (.iconst (-1), 1) := allD_get dtL_order_k5 48 rfl
theorem dL_order_655 : decode cL_order 655 = .ok (.if_icmp .ne 21, 3) := allD_get dtL_order_k5 49 rfl
theorem dL_order_658 : decode cL_order 658 = .ok (.aload_n 0, 1) := allD_get dtL_order_k5 50 rfl
theorem dL_order_659 : decode cL_order 659 = .ok (.aload_n 0, 1) := allD_get dtL_order_k5 51 rfl
theorem dL_order_660 : decode cL_order 660 = .ok (.iconst 4, 1) := allD_get dtL_order_k5 52 rfl
theorem dL_order_661 : decode cL_order 661 = .ok (.invokevirtual 9, 3) := allD_get dtL_order_k5 53 rfl
theorem dL_order_664 : decode cL_order 664 = .ok (.iconst 0, 1) := allD_get dtL_order_k5 54 rfl
theorem dL_order_665 : decode cL_order 665 = .ok (.invokevirtual 51, 3) := allD_get dtL_order_k5 55 rfl
theorem dL_order_668 : decode cL_order 668 = .ok (.iconst (-1), 1) := allD_get dtL_order_k5 56 rfl
theorem dL_order_669 : decode cL_order 669 = .ok (.if_icmp .ne 7, 3) := allD_get dtL_order_k5 57 rfl
theorem dL_order_672 : decode cL_order 672 = .ok (.iconst 1, 1) := allD_get dtL_order_k5 58 rfl
theorem dL_order_673 : decode cL_order 673 = .ok (.goto 4, 3) := allD_get dtL_order_k5 59 rfl
def tbL_order_k6 : List (Nat × Instr × Nat) := [(676, .iconst 0, 1), (677, .ireturn, 1)]
set_option maxRecDepth 100000 in
theorem dtL_order_k6 : allD cL_order tbL_order_k6 = true := by decide +kernel
theorem dL_order_676 : decode cL_order 676 = .ok (.iconst 0, 1) := allD_get dtL_order_k6 0 rfl
theorem dL_order_677 : decode cL_order 677 = .ok (.ireturn, 1) := allD_get dtL_order_k6 1 rfl
def tbL_rubs_k0 : List (Nat × Instr × Nat) := [(0, .iconst 0, 1), (1, .istore 4, 2), (3, .iconst 0, 1), (4, .istore 5, 2), (6, .ldc2_w 57, 3), (9, .lstore 6, 2), (11, .iconst 0, 1), (12, .istore 8, 2), (14, .iload 8, 2), (16, .aload_n 0, 1), (17, .iconst 0, 1), (18, .invokevirtual 9, 3), (21, .if_icmp .ge 162, 3), (24, .iconst 0, 1), (25, .istore 9, 2), (27, .iconst 0, 1), (28, .istore 10, 2), (30, .iload 10, 2), (32, .aload_n 0, 1), (33, .iload 8, 2), (35, .iconst 1, 1), (36, .invokevirtual 17, 3), (39, .if_icmp .ge 138, 3), (42, .aload_n 0, 1), (43, .iload 8, 2), (45, .iload 10, 2), (47, .iconst 0, 1), (48, .invokevirtual 23, 3), (51, .iload_n 1, 1), (52, .isub, 1), (53, .aload_n 0, 1), (54, .iload 8, 2), (56, .iload 10, 2), (58, .iconst 1, 1), (59, .invokevirtual 23, 3), (62, .iload_n 2, 1), (63, .isub, 1), (64, .invokestatic 27, 3), (67, .iload_n 3, 1), (68, .iload_n 3, 1), (69, .imul, 1), (70, .if_icmp .gt 7, 3), (73, .iconst 1, 1), (74, .goto 4, 3), (77, .iconst 0, 1), (78, .istore 11, 2), (80, .iload 4, 2), (82, .iload 11, 2), (84, .ifCond .eq 7, 3), (87, .iconst 1, 1), (88, .goto 4, 3), (91, .iconst 0, 1), (92, .iadd, 1), (93, .istore 4, 2), (95, .iload 5, 2), (97, .iload 11, 2), (99, .ifCond .ne 12, 3), (102, .iload 9, 2), (104, .ifCond .ne 7, 3), (107, .iconst 1, 1)]
set_option maxRecDepth 100000 in
theorem dtL_rubs_k0 : allD cL_rubs tbL_rubs_k0 = true := by decide +kernel
theorem dL_rubs_0 : decode cL_rubs 0 = .ok (.iconst 0, 1) := allD_get dtL_rubs_k0 0 rfl
theorem dL_rubs_1 : decode cL_rubs 1 = .ok (.istore 4, 2) := allD_get dtL_rubs_k0 1 rfl
theorem dL_rubs_3 : decode cL_rubs 3 = .ok (.iconst 0, 1) := allD_get dtL_rubs_k0 2 rfl
theorem dL_rubs_4 : decode cL_rubs 4 = .ok (.istore 5, 2) := allD_get dtL_rubs_k0 3 rfl
theorem dL_rubs_6 : decode cL_rubs 6 = .ok (.ldc2_w 57, 3) := allD_get dtL_rubs_k0 4 rfl
theorem dL_rubs_9 : decode cL_rubs 9 = .ok (.lstore 6, 2) := allD_get dtL_rubs_k0 5 rfl
theorem dL_rubs_11 : decode cL_rubs 11 = .ok (.iconst 0, 1) := allD_get dtL_rubs_k0 6 rfl
theorem dL_rubs_12 : decode cL_rubs 12 = .ok (.istore 8, 2) := allD_get dtL_rubs_k0 7 rfl
theorem dL_rubs_14 : decode cL_rubs 14 = .ok (.iload 8, 2) := allD_get dtL_rubs_k0 8 rfl
theorem dL_rubs_16 : decode cL_rubs 16 = .ok (.aload_n 0, 1) := allD_get dtL_rubs_k0 9 rfl
theorem dL_rubs_17 : decode cL_rubs 17 = .ok (.iconst 0, 1) := allD_get dtL_rubs_k0 10 rfl
theorem dL_rubs_18 : decode cL_rubs 18 = .ok (.invokevirtual 9, 3) := allD_get dtL_rubs_k0 11 rfl
theorem dL_rubs_21 : decode cL_rubs 21 = .ok (.if_icmp .ge 162, 3) := allD_get dtL_rubs_k0 12 rfl
theorem dL_rubs_24 : decode cL_rubs 24 = .ok (.iconst 0, 1) := allD_get dtL_rubs_k0 13 rfl
theorem dL_rubs_25 : decode cL_rubs 25 = .ok (.istore 9, 2) := allD_get dtL_rubs_k0 14 rfl
theorem dL_rubs_27 : decode cL_rubs 27 = .ok (.iconst 0, 1) := allD_get dtL_rubs_k0 15 rfl
theorem dL_rubs_28 : decode cL_rubs 28 = .ok (.istore 10, 2) := allD_get dtL_rubs_k0 16 rfl
theorem dL_rubs_30 : decode cL_rubs 30 = .ok (.iload 10, 2) := allD_get dtL_rubs_k0 17 rfl
theorem dL_rubs_32 : decode cL_rubs 32 = .ok (.aload_n 0, 1) := allD_get dtL_rubs_k0 18 rfl
theorem dL_rubs_33 : decode cL_rubs 33 = .ok (.iload 8, 2) := allD_get dtL_rubs_k0 19 rfl
theorem dL_rubs_35 : decode cL_rubs 35 = .ok (.iconst 1, 1) := allD_get dtL_rubs_k0 20 rfl
theorem dL_rubs_36 : decode cL_rubs 36 = .ok (.invokevirtual 17, 3) := allD_get dtL_rubs_k0 21 rfl
theorem dL_rubs_39 : decode cL_rubs 39 = .ok (.if_icmp .ge 138, 3) := allD_get dtL_rubs_k0 22 rfl
theorem dL_rubs_42 : decode cL_rubs 42 = .ok (.aload_n 0, 1) := allD_get dtL_rubs_k0 23 rfl
theorem dL_rubs_43 : decode cL_rubs 43 = .ok (.iload 8, 2) := allD_get dtL_rubs_k0 24 rfl
theorem dL_rubs_45 : decode cL_rubs 45 = .ok (.iload 10, 2) := allD_get dtL_rubs_k0 25 rfl
theorem dL_rubs_47 : decode cL_rubs 47 = .ok (.iconst 0, 1) := allD_get dtL_rubs_k0 26 rfl
theorem dL_rubs_48 : decode cL_rubs 48 = .ok (.invokevirtual 23, 3) := allD_get dtL_rubs_k0 27 rfl
theorem dL_rubs_51 : decode cL_rubs 51 = .ok (.iload_n 1, 1) := allD_get dtL_rubs_k0 28 rfl
theorem dL_rubs_52 : decode cL_rubs 52 = .ok (.isub, 1) := allD_get dtL_rubs_k0 29 rfl
theorem dL_rubs_53 : decode cL_rubs 53 = .ok (.aload_n 0, 1) := allD_get dtL_rubs_k0 30 rfl
theorem dL_rubs_54 : decode cL_rubs 54 = .ok (.iload 8, 2) := allD_get dtL_rubs_k0 31 rfl
theorem dL_rubs_56 : decode cL_rubs 56 = .ok (.iload 10, 2) := allD_get dtL_rubs_k0 32 rfl
theorem dL_rubs_58 : decode cL_rubs 58 = .ok (.iconst 1, 1) := allD_get dtL_rubs_k0 33 rfl
theorem dL_rubs_59 : decode cL_rubs 59 = .ok (.invokevirtual 23, 3) := allD_get dtL_rubs_k0 34 rfl
theorem dL_rubs_62 : decode cL_rubs 62 = .ok (.iload_n 2, 1) := allD_get dtL_rubs_k0 35 rfl
theorem dL_rubs_63 : decode cL_rubs 63 = .ok (.isub, 1) := allD_get dtL_rubs_k0 36 rfl
theorem dL_rubs_64 : decode cL_rubs 64 = .ok (.invokestatic 27, 3) := allD_get dtL_rubs_k0 37 rfl
theorem dL_rubs_67 : decode cL_rubs 67 = .ok (.iload_n 3, 1) := allD_get dtL_rubs_k0 38 rfl
theorem dL_rubs_68 : decode cL_rubs 68 = .ok (.iload_n 3, 1) := allD_get dtL_rubs_k0 39 rfl
theorem dL_rubs_69 : decode cL_rubs 69 = .ok (.imul, 1) := allD_get dtL_rubs_k0 40 rfl
theorem dL_rubs_70 : decode cL_rubs 70 = .ok (.if_icmp .gt 7, 3) := allD_get dtL_rubs_k0 41 rfl
theorem dL_rubs_73 : decode cL_rubs 73 = .ok (.iconst 1, 1) := allD_get dtL_rubs_k0 42 rfl
theorem dL_rubs_74 : decode cL_rubs 74 = .ok (.goto 4, 3) := allD_get dtL_rubs_k0 43 rfl
theorem dL_rubs_77 : decode cL_rubs 77 = .ok (.iconst 0, 1) := allD_get dtL_rubs_k0 44 rfl
theorem dL_rubs_78 : decode cL_rubs 78 = .ok (.istore 11, 2) := allD_get dtL_rubs_k0 45 rfl
theorem dL_rubs_80 : decode cL_rubs 80 = .ok (.iload 4, 2) := allD_get dtL_rubs_k0 46 rfl
theorem dL_rubs_82 : decode cL_rubs 82 = .ok (.iload 11, 2) := allD_get dtL_rubs_k0 47 rfl
theorem dL_rubs_84 : decode cL_rubs 84 = .ok (.ifCond .eq 7, 3) := allD_get dtL_rubs_k0 48 rfl
theorem dL_rubs_87 : decode cL_rubs 87 = .ok (.iconst 1, 1) := allD_get dtL_rubs_k0 49 rfl
theorem dL_rubs_88 : decode cL_rubs 88 = .ok (.goto 4, 3) := allD_get dtL_rubs_k0 50 rfl
theorem dL_rubs_91 : decode cL_rubs 91 = .ok (.iconst 0, 1) := allD_get dtL_rubs_k0 51 rfl
theorem dL_rubs_92 : decode cL_rubs 92 = .ok (.iadd, 1) := allD_get dtL_rubs_k0 52 rfl
theorem dL_rubs_93 : decode cL_rubs 93 = .ok (.istore 4, 2) := allD_get dtL_rubs_k0 53 rfl
theorem dL_rubs_95 : decode cL_rubs 95 = .ok (.iload 5, 2) := allD_get dtL_rubs_k0 54 rfl
theorem dL_rubs_97 : decode cL_rubs 97 = .ok (.iload 11, 2) := allD_get dtL_rubs_k0 55 rfl
theorem dL_rubs_99 : decode cL_rubs 99 = .ok (.ifCond .ne 12, 3) := allD_get dtL_rubs_k0 56 rfl
theorem dL_rubs_102 : decode cL_rubs 102 = .ok (.iload 9, 2) := allD_get dtL_rubs_k0 57 rfl
theorem dL_rubs_104 : decode cL_rubs 104 = .ok (.ifCond .ne 7, 3) := allD_get dtL_rubs_k0 58 rfl
theorem dL_rubs_107 : decode cL_rubs 107 = .ok (.iconst 1, 1) := allD_get dtL_rubs_k0 59 rfl
def tbL_rubs_k1 : List (Nat × Instr × Nat) := [(108, .goto 4, 3), (111, .iconst 0, 1), (112, .iadd, 1), (113, .istore 5, 2), (115, .iload 11, 2), (117, .ifCond .eq 8, 3), (120, .lload 6, 2), (122, .goto 35, 3), (125, .ldc2_w 21, 3), (128, .ldc2_w 21, 3), (131, .lload 6, 2), (133, .lmul, 1), (134, .aload_n 0, 1), (135, .iload 8, 2), (137, .iload 10, 2), (139, .iconst 0, 1), (140, .invokevirtual 23, 3), (143, .i2l, 1), (144, .ladd, 1), (145, .lmul, 1), (146, .aload_n 0, 1), (147, .iload 8, 2), (149, .iload 10, 2), (151, .iconst 1, 1), (152, .invokevirtual 23, 3), (155, .i2l, 1), (156, .ladd, 1), (157, .lstore 6, 2), (159, .iload 11, 2), (161, .ifCond .ne 7, 3), (164, .iconst 1, 1), (165, .goto 4, 3), (168, .iconst 0, 1), (169, .istore 9, 2), (171, .iinc 10 1, 3), (174, .goto (-144), 3), (177, .iinc 8 1, 3), (180, .goto (-166), 3), (183, .aload_n 0, 1), (184, .invokestatic 59, 3), (187, .lstore 8, 2), (189, .iload 5, 2), (191, .bipush 16, 2), (193, .if_icmp .le 8, 3), (196, .bipush (-3), 2), (198, .goto 15, 3), (201, .iload 4, 2), (203, .ifCond .ne 8, 3), (206, .bipush (-5), 2), (208, .goto 5, 3), (211, .iload 4, 2), (213, .istore 10, 2), (215, .aload_n 0, 1), (216, .iload_n 1, 1), (217, .iload_n 2, 1), (218, .iload_n 3, 1), (219, .invokevirtual 63, 3), (222, .iload 10, 2), (224, .if_icmp .ne 18, 3), (227, .iload 10, 2)]
set_option maxRecDepth 100000 in
theorem dtL_rubs_k1 : allD cL_rubs tbL_rubs_k1 = true := by decide +kernel
theorem dL_rubs_108 : decode cL_rubs 108 = .ok (.goto 4, 3) := allD_get dtL_rubs_k1 0 rfl
theorem dL_rubs_111 : decode cL_rubs 111 = .ok (.iconst 0, 1) := allD_get dtL_rubs_k1 1 rfl
theorem dL_rubs_112 : decode cL_rubs 112 = .ok (.iadd, 1) := allD_get dtL_rubs_k1 2 rfl
theorem dL_rubs_113 : decode cL_rubs 113 = .ok (.istore 5, 2) := allD_get dtL_rubs_k1 3 rfl
theorem dL_rubs_115 : decode cL_rubs 115 = .ok (.iload 11, 2) := allD_get dtL_rubs_k1 4 rfl
theorem dL_rubs_117 : decode cL_rubs 117 = .ok (.ifCond .eq 8, 3) := allD_get dtL_rubs_k1 5 rfl
theorem dL_rubs_120 : decode cL_rubs 120 = .ok (.lload 6, 2) := allD_get dtL_rubs_k1 6 rfl
theorem dL_rubs_122 : decode cL_rubs 122 = .ok (.goto 35, 3) := allD_get dtL_rubs_k1 7 rfl
theorem dL_rubs_125 : decode cL_rubs 125 = .ok (.ldc2_w 21, 3) := allD_get dtL_rubs_k1 8 rfl
theorem dL_rubs_128 : decode cL_rubs 128 = .ok (.ldc2_w 21, 3) := allD_get dtL_rubs_k1 9 rfl
theorem dL_rubs_131 : decode cL_rubs 131 = .ok (.lload 6, 2) := allD_get dtL_rubs_k1 10 rfl
theorem dL_rubs_133 : decode cL_rubs 133 = .ok (.lmul, 1) := allD_get dtL_rubs_k1 11 rfl
theorem dL_rubs_134 : decode cL_rubs 134 = .ok (.aload_n 0, 1) := allD_get dtL_rubs_k1 12 rfl
theorem dL_rubs_135 : decode cL_rubs 135 = .ok (.iload 8, 2) := allD_get dtL_rubs_k1 13 rfl
theorem dL_rubs_137 : decode cL_rubs 137 = .ok (.iload 10, 2) := allD_get dtL_rubs_k1 14 rfl
theorem dL_rubs_139 : decode cL_rubs 139 = .ok (.iconst 0, 1) := allD_get dtL_rubs_k1 15 rfl
theorem dL_rubs_140 : decode cL_rubs 140 = .ok (.invokevirtual 23, 3) := allD_get dtL_rubs_k1 16 rfl
theorem dL_rubs_143 : decode cL_rubs 143 = .ok (.i2l, 1) := allD_get dtL_rubs_k1 17 rfl
theorem dL_rubs_144 : decode cL_rubs 144 = .ok (.ladd, 1) := allD_get dtL_rubs_k1 18 rfl
theorem dL_rubs_145 : decode cL_rubs 145 = .ok (.lmul, 1) := allD_get dtL_rubs_k1 19 rfl
theorem dL_rubs_146 : decode cL_rubs 146 = .ok (.aload_n 0, 1) := allD_get dtL_rubs_k1 20 rfl
theorem dL_rubs_147 : decode cL_rubs 147 = .ok (.iload 8, 2) := allD_get dtL_rubs_k1 21 rfl
theorem dL_rubs_149 : decode cL_rubs 149 = .ok (.iload 10, 2) := allD_get dtL_rubs_k1 22 rfl
theorem dL_rubs_151 : decode cL_rubs 151 = .ok (.iconst 1, 1) := allD_get dtL_rubs_k1 23 rfl
theorem dL_rubs_152 : decode cL_rubs 152 = .ok (.invokevirtual 23, 3) := allD_get dtL_rubs_k1 24 rfl
theorem dL_rubs_155 : decode cL_rubs 155 = .ok (.i2l, 1) := allD_get dtL_rubs_k1 25 rfl
theorem dL_rubs_156 : decode cL_rubs 156 = .ok (.ladd, 1) := allD_get dtL_rubs_k1 26 rfl
theorem dL_rubs_157 : decode cL_rubs 157 = .ok (.lstore 6, 2) := allD_get dtL_rubs_k1 27 rfl
theorem dL_rubs_159 : decode cL_rubs 159 = .ok (.iload 11, 2) := allD_get dtL_rubs_k1 28 rfl
theorem dL_rubs_161 : decode cL_rubs 161 = .ok (.ifCond .ne 7, 3) := allD_get dtL_rubs_k1 29 rfl
theorem dL_rubs_164 : decode cL_rubs 164 = .ok (.iconst 1, 1) := allD_get dtL_rubs_k1 30 rfl
theorem dL_rubs_165 : decode cL_rubs 165 = .ok (.goto 4, 3) := allD_get dtL_rubs_k1 31 rfl
theorem dL_rubs_168 : decode cL_rubs 168 = .ok (.iconst 0, 1) := allD_get dtL_rubs_k1 32 rfl
theorem dL_rubs_169 : decode cL_rubs 169 = .ok (.istore 9, 2) := allD_get dtL_rubs_k1 33 rfl
theorem dL_rubs_171 : decode cL_rubs 171 = .ok (.iinc 10 1, 3) := allD_get dtL_rubs_k1 34 rfl
theorem dL_rubs_174 : decode cL_rubs 174 = .ok (.goto (-144), 3) := allD_get dtL_rubs_k1 35 rfl
theorem dL_rubs_177 : decode cL_rubs 177 = .ok (.iinc 8 1, 3) := allD_get dtL_rubs_k1 36 rfl
theorem dL_rubs_180 : decode cL_rubs 180 = .ok (.goto (-166), 3) := allD_get dtL_rubs_k1 37 rfl
theorem dL_rubs_183 : decode cL_rubs 183 = .ok (.aload_n 0, 1) := allD_get dtL_rubs_k1 38 rfl
theorem dL_rubs_184 : decode cL_rubs 184 = .ok (.invokestatic 59, 3) := allD_get dtL_rubs_k1 39 rfl
theorem dL_rubs_187 : decode cL_rubs 187 = .ok (.lstore 8, 2) := allD_get dtL_rubs_k1 40 rfl
theorem dL_rubs_189 : decode cL_rubs 189 = .ok (.iload 5, 2) := allD_get dtL_rubs_k1 41 rfl
theorem dL_rubs_191 : decode cL_rubs 191 = .ok (.bipush 16, 2) := allD_get dtL_rubs_k1 42 rfl
theorem dL_rubs_193 : decode cL_rubs 193 = .ok (.if_icmp .le 8, 3) := allD_get dtL_rubs_k1 43 rfl
theorem dL_rubs_196 : decode cL_rubs 196 = .ok (.bipush (-3), 2) := allD_get dtL_rubs_k1 44 rfl
theorem dL_rubs_198 : decode cL_rubs 198 = .ok (.goto 15, 3) := allD_get dtL_rubs_k1 45 rfl
theorem dL_rubs_201 : decode cL_rubs 201 = .ok (.iload 4, 2) := allD_get dtL_rubs_k1 46 rfl
theorem dL_rubs_203 : decode cL_rubs 203 = .ok (.ifCond .ne 8, 3) := allD_get dtL_rubs_k1 47 rfl
theorem dL_rubs_206 : decode cL_rubs 206 = .ok (.bipush (-5), 2) := allD_get dtL_rubs_k1 48 rfl
theorem dL_rubs_208 : decode cL_rubs 208 = .ok (.goto 5, 3) := allD_get dtL_rubs_k1 49 rfl
theorem dL_rubs_211 : decode cL_rubs 211 = .ok (.iload 4, 2) := allD_get dtL_rubs_k1 50 rfl
theorem dL_rubs_213 : decode cL_rubs 213 = .ok (.istore 10, 2) := allD_get dtL_rubs_k1 51 rfl
theorem dL_rubs_215 : decode cL_rubs 215 = .ok (.aload_n 0, 1) := allD_get dtL_rubs_k1 52 rfl
theorem dL_rubs_216 : decode cL_rubs 216 = .ok (.iload_n 1, 1) := allD_get dtL_rubs_k1 53 rfl
theorem dL_rubs_217 : decode cL_rubs 217 = .ok (.iload_n 2, 1) := allD_get dtL_rubs_k1 54 rfl
theorem dL_rubs_218 : decode cL_rubs 218 = .ok (.iload_n 3, 1) := allD_get dtL_rubs_k1 55 rfl
theorem dL_rubs_219 : decode cL_rubs 219 = .ok (.invokevirtual 63, 3) := allD_get dtL_rubs_k1 56 rfl
theorem dL_rubs_222 : decode cL_rubs 222 = .ok (.iload 10, 2) := allD_get dtL_rubs_k1 57 rfl
theorem dL_rubs_224 : decode cL_rubs 224 = .ok (.if_icmp .ne 18, 3) := allD_get dtL_rubs_k1 58 rfl
theorem dL_rubs_227 : decode cL_rubs 227 = .ok (.iload 10, 2) := allD_get dtL_rubs_k1 59 rfl
def tbL_rubs_k2 : List (Nat × Instr × Nat) := [(229, .ifCond .ge 15, 3), (232, .aload_n 0, 1), (233, .invokestatic 59, 3), (236, .lload 8, 2), (238, .lcmp, 1), (239, .ifCond .eq 5, 3), (242, .iconst 0, 1), (243, .ireturn, 1), (244, .ldc2_w 57, 3), (247, .lstore 11, 2), (249, .iconst 0, 1), (250, .istore 13, 2), (252, .iload 13, 2), (254, .aload_n 0, 1), (255, .iconst 0, 1), (256, .invokevirtual 9, 3), (259, .if_icmp .ge 64, 3), (262, .iconst 0, 1), (263, .istore 14, 2), (265, .iload 14, 2), (267, .aload_n 0, 1), (268, .iload 13, 2), (270, .iconst 1, 1), (271, .invokevirtual 17, 3), (274, .if_icmp .ge 43, 3), (277, .ldc2_w 21, 3), (280, .ldc2_w 21, 3), (283, .lload 11, 2), (285, .lmul, 1), (286, .aload_n 0, 1), (287, .iload 13, 2), (289, .iload 14, 2), (291, .iconst 0, 1), (292, .invokevirtual 23, 3), (295, .i2l, 1), (296, .ladd, 1), (297, .lmul, 1), (298, .aload_n 0, 1), (299, .iload 13, 2), (301, .iload 14, 2), (303, .iconst 1, 1), (304, .invokevirtual 23, 3), (307, .i2l, 1), (308, .ladd, 1), (309, .lstore 11, 2), (311, .iinc 14 1, 3), (314, .goto (-49), 3), (317, .iinc 13 1, 3), (320, .goto (-68), 3), (323, .iload 10, 2), (325, .ifCond .lt 21, 3), (328, .lload 11, 2), (330, .lload 6, 2), (332, .lcmp, 1), (333, .ifCond .ne 17, 3), (336, .aload_n 0, 1), (337, .iconst 0, 1), (338, .invokevirtual 9, 3), (341, .iload 5, 2), (343, .if_icmp .ne 7, 3)]
set_option maxRecDepth 100000 in
theorem dtL_rubs_k2 : allD cL_rubs tbL_rubs_k2 = true := by decide +kernel
theorem dL_rubs_229 : decode cL_rubs 229 = .ok (.ifCond .ge 15, 3) := allD_get dtL_rubs_k2 0 rfl
theorem dL_rubs_232 : decode cL_rubs 232 = .ok (.aload_n 0, 1) := allD_get dtL_rubs_k2 1 rfl
theorem dL_rubs_233 : decode cL_rubs 233 = .ok (.invokestatic 59, 3) := allD_get dtL_rubs_k2 2 rfl
theorem dL_rubs_236 : decode cL_rubs 236 = .ok (.lload 8, 2) := allD_get dtL_rubs_k2 3 rfl
theorem dL_rubs_238 : decode cL_rubs 238 = .ok (.lcmp, 1) := allD_get dtL_rubs_k2 4 rfl
theorem dL_rubs_239 : decode cL_rubs 239 = .ok (.ifCond .eq 5, 3) := allD_get dtL_rubs_k2 5 rfl
theorem dL_rubs_242 : decode cL_rubs 242 = .ok (.iconst 0, 1) := allD_get dtL_rubs_k2 6 rfl
theorem dL_rubs_243 : decode cL_rubs 243 = .ok (.ireturn, 1) := allD_get dtL_rubs_k2 7 rfl
theorem dL_rubs_244 : decode cL_rubs 244 = .ok (.ldc2_w 57, 3) := allD_get dtL_rubs_k2 8 rfl
theorem dL_rubs_247 : decode cL_rubs 247 = .ok (.lstore 11, 2) := allD_get dtL_rubs_k2 9 rfl
theorem dL_rubs_249 : decode cL_rubs 249 = .ok (.iconst 0, 1) := allD_get dtL_rubs_k2 10 rfl
theorem dL_rubs_250 : decode cL_rubs 250 = .ok (.istore 13, 2) := allD_get dtL_rubs_k2 11 rfl
theorem dL_rubs_252 : decode cL_rubs 252 = .ok (.iload 13, 2) := allD_get dtL_rubs_k2 12 rfl
theorem dL_rubs_254 : decode cL_rubs 254 = .ok (.aload_n 0, 1) := allD_get dtL_rubs_k2 13 rfl
theorem dL_rubs_255 : decode cL_rubs 255 = .ok (.iconst 0, 1) := allD_get dtL_rubs_k2 14 rfl
theorem dL_rubs_256 : decode cL_rubs 256 = .ok (.invokevirtual 9, 3) := allD_get dtL_rubs_k2 15 rfl
theorem dL_rubs_259 : decode cL_rubs 259 = .ok (.if_icmp .ge 64, 3) := allD_get dtL_rubs_k2 16 rfl
theorem dL_rubs_262 : decode cL_rubs 262 = .ok (.iconst 0, 1) := allD_get dtL_rubs_k2 17 rfl
theorem dL_rubs_263 : decode cL_rubs 263 = .ok (.istore 14, 2) := allD_get dtL_rubs_k2 18 rfl
theorem dL_rubs_265 : decode cL_rubs 265 = .ok (.iload 14, 2) := allD_get dtL_rubs_k2 19 rfl
theorem dL_rubs_267 : decode cL_rubs 267 = .ok (.aload_n 0, 1) := allD_get dtL_rubs_k2 20 rfl
theorem dL_rubs_268 : decode cL_rubs 268 = .ok (.iload 13, 2) := allD_get dtL_rubs_k2 21 rfl
theorem dL_rubs_270 : decode cL_rubs 270 = .ok (.iconst 1, 1) := allD_get dtL_rubs_k2 22 rfl
theorem dL_rubs_271 : decode cL_rubs 271 = .ok (.invokevirtual 17, 3) := allD_get dtL_rubs_k2 23 rfl
theorem dL_rubs_274 : decode cL_rubs 274 = .ok (.if_icmp .ge 43, 3) := allD_get dtL_rubs_k2 24 rfl
theorem dL_rubs_277 : decode cL_rubs 277 = .ok (.ldc2_w 21, 3) := allD_get dtL_rubs_k2 25 rfl
theorem dL_rubs_280 : decode cL_rubs 280 = .ok (.ldc2_w 21, 3) := allD_get dtL_rubs_k2 26 rfl
theorem dL_rubs_283 : decode cL_rubs 283 = .ok (.lload 11, 2) := allD_get dtL_rubs_k2 27 rfl
theorem dL_rubs_285 : decode cL_rubs 285 = .ok (.lmul, 1) := allD_get dtL_rubs_k2 28 rfl
theorem dL_rubs_286 : decode cL_rubs 286 = .ok (.aload_n 0, 1) := allD_get dtL_rubs_k2 29 rfl
theorem dL_rubs_287 : decode cL_rubs 287 = .ok (.iload 13, 2) := allD_get dtL_rubs_k2 30 rfl
theorem dL_rubs_289 : decode cL_rubs 289 = .ok (.iload 14, 2) := allD_get dtL_rubs_k2 31 rfl
theorem dL_rubs_291 : decode cL_rubs 291 = .ok (.iconst 0, 1) := allD_get dtL_rubs_k2 32 rfl
theorem dL_rubs_292 : decode cL_rubs 292 = .ok (.invokevirtual 23, 3) := allD_get dtL_rubs_k2 33 rfl
theorem dL_rubs_295 : decode cL_rubs 295 = .ok (.i2l, 1) := allD_get dtL_rubs_k2 34 rfl
theorem dL_rubs_296 : decode cL_rubs 296 = .ok (.ladd, 1) := allD_get dtL_rubs_k2 35 rfl
theorem dL_rubs_297 : decode cL_rubs 297 = .ok (.lmul, 1) := allD_get dtL_rubs_k2 36 rfl
theorem dL_rubs_298 : decode cL_rubs 298 = .ok (.aload_n 0, 1) := allD_get dtL_rubs_k2 37 rfl
theorem dL_rubs_299 : decode cL_rubs 299 = .ok (.iload 13, 2) := allD_get dtL_rubs_k2 38 rfl
theorem dL_rubs_301 : decode cL_rubs 301 = .ok (.iload 14, 2) := allD_get dtL_rubs_k2 39 rfl
theorem dL_rubs_303 : decode cL_rubs 303 = .ok (.iconst 1, 1) := allD_get dtL_rubs_k2 40 rfl
theorem dL_rubs_304 : decode cL_rubs 304 = .ok (.invokevirtual 23, 3) := allD_get dtL_rubs_k2 41 rfl
theorem dL_rubs_307 : decode cL_rubs 307 = .ok (.i2l, 1) := allD_get dtL_rubs_k2 42 rfl
theorem dL_rubs_308 : decode cL_rubs 308 = .ok (.ladd, 1) := allD_get dtL_rubs_k2 43 rfl
theorem dL_rubs_309 : decode cL_rubs 309 = .ok (.lstore 11, 2) := allD_get dtL_rubs_k2 44 rfl
theorem dL_rubs_311 : decode cL_rubs 311 = .ok (.iinc 14 1, 3) := allD_get dtL_rubs_k2 45 rfl
theorem dL_rubs_314 : decode cL_rubs 314 = .ok (.goto (-49), 3) := allD_get dtL_rubs_k2 46 rfl
theorem dL_rubs_317 : decode cL_rubs 317 = .ok (.iinc 13 1, 3) := allD_get dtL_rubs_k2 47 rfl
theorem dL_rubs_320 : decode cL_rubs 320 = .ok (.goto (-68), 3) := allD_get dtL_rubs_k2 48 rfl
theorem dL_rubs_323 : decode cL_rubs 323 = .ok (.iload 10, 2) := allD_get dtL_rubs_k2 49 rfl
theorem dL_rubs_325 : decode cL_rubs 325 = .ok (.ifCond .lt 21, 3) := allD_get dtL_rubs_k2 50 rfl
theorem dL_rubs_328 : decode cL_rubs 328 = .ok (.lload 11, 2) := allD_get dtL_rubs_k2 51 rfl
theorem dL_rubs_330 : decode cL_rubs 330 = .ok (.lload 6, 2) := allD_get dtL_rubs_k2 52 rfl
theorem dL_rubs_332 : decode cL_rubs 332 = .ok (.lcmp, 1) := allD_get dtL_rubs_k2 53 rfl
theorem dL_rubs_333 : decode cL_rubs 333 = .ok (.ifCond .ne 17, 3) := allD_get dtL_rubs_k2 54 rfl
theorem dL_rubs_336 : decode cL_rubs 336 = .ok (.aload_n 0, 1) := allD_get dtL_rubs_k2 55 rfl
theorem dL_rubs_337 : decode cL_rubs 337 = .ok (.iconst 0, 1) := allD_get dtL_rubs_k2 56 rfl
theorem dL_rubs_338 : decode cL_rubs 338 = .ok (.invokevirtual 9, 3) := allD_get dtL_rubs_k2 57 rfl
theorem dL_rubs_341 : decode cL_rubs 341 = .ok (.iload 5, 2) := allD_get dtL_rubs_k2 58 rfl
theorem dL_rubs_343 : decode cL_rubs 343 = .ok (.if_icmp .ne 7, 3) := allD_get dtL_rubs_k2 59 rfl
def tbL_rubs_k3 : List (Nat × Instr × Nat) := [(346, .iconst 1, 1), (347, .goto 4, 3), (350, .iconst 0, 1), (351, .ireturn, 1)]
set_option maxRecDepth 100000 in
theorem dtL_rubs_k3 : allD cL_rubs tbL_rubs_k3 = true := by decide +kernel
theorem dL_rubs_346 : decode cL_rubs 346 = .ok (.iconst 1, 1) := allD_get dtL_rubs_k3 0 rfl
theorem dL_rubs_347 : decode cL_rubs 347 = .ok (.goto 4, 3) := allD_get dtL_rubs_k3 1 rfl
theorem dL_rubs_350 : decode cL_rubs 350 = .ok (.iconst 0, 1) := allD_get dtL_rubs_k3 2 rfl
theorem dL_rubs_351 : decode cL_rubs 351 = .ok (.ireturn, 1) := allD_get dtL_rubs_k3 3 rfl
def tbL_shapes_k0 : List (Nat × Instr × Nat) := [(0, .aload_n 0, 1), (1, .iload_n 1, 1), (2, .iconst 1, 1), (3, .invokevirtual 17, 3), (6, .istore 4, 2), (8, .aload_n 0, 1), (9, .iload_n 1, 1), (10, .iconst 0, 1), (11, .iconst 0, 1), (12, .invokevirtual 23, 3), (15, .istore 5, 2), (17, .aload_n 0, 1), (18, .iload_n 1, 1), (19, .iconst 0, 1), (20, .iconst 1, 1), (21, .invokevirtual 23, 3), (24, .istore 6, 2), (26, .aload_n 0, 1), (27, .iload_n 1, 1), (28, .iload 4, 2), (30, .iconst 1, 1), (31, .isub, 1), (32, .iconst 0, 1), (33, .invokevirtual 23, 3), (36, .istore 7, 2), (38, .aload_n 0, 1), (39, .iload_n 1, 1), (40, .iload 4, 2), (42, .iconst 1, 1), (43, .isub, 1), (44, .iconst 1, 1), (45, .invokevirtual 23, 3), (48, .istore 8, 2), (50, .aload_n 0, 1), (51, .iconst 0, 1), (52, .invokevirtual 9, 3), (55, .istore 9, 2), (57, .aload_n 0, 1), (58, .iload_n 1, 1), (59, .bipush 6, 2), (61, .invokevirtual 17, 3), (64, .istore 10, 2), (66, .aload_n 0, 1), (67, .invokestatic 59, 3), (70, .lstore 11, 2), (72, .iload_n 2, 1), (73, .iconst 1, 1), (74, .iand, 1), (75, .ifCond .ne 7, 3), (78, .iconst 1, 1), (79, .goto 4, 3), (82, .iconst 0, 1), (83, .istore 13, 2), (85, .iconst 1, 1), (86, .iload_n 3, 1), (87, .bipush 120, 2), (89, .invokestatic 35, 3), (92, .iadd, 1), (93, .istore 14, 2), (95, .iload 13, 2)]
set_option maxRecDepth 100000 in
theorem dtL_shapes_k0 : allD cL_shapes tbL_shapes_k0 = true := by decide +kernel
theorem dL_shapes_0 : decode cL_shapes 0 = .ok (.aload_n 0, 1) := allD_get dtL_shapes_k0 0 rfl
theorem dL_shapes_1 : decode cL_shapes 1 = .ok (.iload_n 1, 1) := allD_get dtL_shapes_k0 1 rfl
theorem dL_shapes_2 : decode cL_shapes 2 = .ok (.iconst 1, 1) := allD_get dtL_shapes_k0 2 rfl
theorem dL_shapes_3 : decode cL_shapes 3 = .ok (.invokevirtual 17, 3) := allD_get dtL_shapes_k0 3 rfl
theorem dL_shapes_6 : decode cL_shapes 6 = .ok (.istore 4, 2) := allD_get dtL_shapes_k0 4 rfl
theorem dL_shapes_8 : decode cL_shapes 8 = .ok (.aload_n 0, 1) := allD_get dtL_shapes_k0 5 rfl
theorem dL_shapes_9 : decode cL_shapes 9 = .ok (.iload_n 1, 1) := allD_get dtL_shapes_k0 6 rfl
theorem dL_shapes_10 : decode cL_shapes 10 = .ok (.iconst 0, 1) := allD_get dtL_shapes_k0 7 rfl
theorem dL_shapes_11 : decode cL_shapes 11 = .ok (.iconst 0, 1) := allD_get dtL_shapes_k0 8 rfl
theorem dL_shapes_12 : decode cL_shapes 12 = .ok (.invokevirtual 23, 3) := allD_get dtL_shapes_k0 9 rfl
theorem dL_shapes_15 : decode cL_shapes 15 = .ok (.istore 5, 2) := allD_get dtL_shapes_k0 10 rfl
theorem dL_shapes_17 : decode cL_shapes 17 = .ok (.aload_n 0, 1) := allD_get dtL_shapes_k0 11 rfl
theorem dL_shapes_18 : decode cL_shapes 18 = .ok (.iload_n 1, 1) := allD_get dtL_shapes_k0 12 rfl
theorem dL_shapes_19 : decode cL_shapes 19 = .ok (.iconst 0, 1) := allD_get dtL_shapes_k0 13 rfl
theorem dL_shapes_20 : decode cL_shapes 20 = .ok (.iconst 1, 1) := allD_get dtL_shapes_k0 14 rfl
theorem dL_shapes_21 : decode cL_shapes 21 = .ok (.invokevirtual 23, 3) := allD_get dtL_shapes_k0 15 rfl
theorem dL_shapes_24 : decode cL_shapes 24 = .ok (.istore 6, 2) := allD_get dtL_shapes_k0 16 rfl
theorem dL_shapes_26 : decode cL_shapes 26 = .ok (.aload_n 0, 1) := allD_get dtL_shapes_k0 17 rfl
theorem dL_shapes_27 : decode cL_shapes 27 = .ok (.iload_n 1, 1) := allD_get dtL_shapes_k0 18 rfl
theorem dL_shapes_28 : decode cL_shapes 28 = .ok (.iload 4, 2) := allD_get dtL_shapes_k0 19 rfl
theorem dL_shapes_30 : decode cL_shapes 30 = .ok (.iconst 1, 1) := allD_get dtL_shapes_k0 20 rfl
theorem dL_shapes_31 : decode cL_shapes 31 = .ok (.isub, 1) := allD_get dtL_shapes_k0 21 rfl
theorem dL_shapes_32 : decode cL_shapes 32 = .ok (.iconst 0, 1) := allD_get dtL_shapes_k0 22 rfl
theorem dL_shapes_33 : decode cL_shapes 33 = .ok (.invokevirtual 23, 3) := allD_get dtL_shapes_k0 23 rfl
theorem dL_shapes_36 : decode cL_shapes 36 = .ok (.istore 7, 2) := allD_get dtL_shapes_k0 24 rfl
theorem dL_shapes_38 : decode cL_shapes 38 = .ok (.aload_n 0, 1) := allD_get dtL_shapes_k0 25 rfl
theorem dL_shapes_39 : decode cL_shapes 39 = .ok (.iload_n 1, 1) := allD_get dtL_shapes_k0 26 rfl
theorem dL_shapes_40 : decode cL_shapes 40 = .ok (.iload 4, 2) := allD_get dtL_shapes_k0 27 rfl
theorem dL_shapes_42 : decode cL_shapes 42 = .ok (.iconst 1, 1) := allD_get dtL_shapes_k0 28 rfl
theorem dL_shapes_43 : decode cL_shapes 43 = .ok (.isub, 1) := allD_get dtL_shapes_k0 29 rfl
theorem dL_shapes_44 : decode cL_shapes 44 = .ok (.iconst 1, 1) := allD_get dtL_shapes_k0 30 rfl
theorem dL_shapes_45 : decode cL_shapes 45 = .ok (.invokevirtual 23, 3) := allD_get dtL_shapes_k0 31 rfl
theorem dL_shapes_48 : decode cL_shapes 48 = .ok (.istore 8, 2) := allD_get dtL_shapes_k0 32 rfl
theorem dL_shapes_50 : decode cL_shapes 50 = .ok (.aload_n 0, 1) := allD_get dtL_shapes_k0 33 rfl
theorem dL_shapes_51 : decode cL_shapes 51 = .ok (.iconst 0, 1) := allD_get dtL_shapes_k0 34 rfl
theorem dL_shapes_52 : decode cL_shapes 52 = .ok (.invokevirtual 9, 3) := allD_get dtL_shapes_k0 35 rfl
theorem dL_shapes_55 : decode cL_shapes 55 = .ok (.istore 9, 2) := allD_get dtL_shapes_k0 36 rfl
theorem dL_shapes_57 : decode cL_shapes 57 = .ok (.aload_n 0, 1) := allD_get dtL_shapes_k0 37 rfl
theorem dL_shapes_58 : decode cL_shapes 58 = .ok (.iload_n 1, 1) := allD_get dtL_shapes_k0 38 rfl
theorem dL_shapes_59 : decode cL_shapes 59 = .ok (.bipush 6, 2) := allD_get dtL_shapes_k0 39 rfl
theorem dL_shapes_61 : decode cL_shapes 61 = .ok (.invokevirtual 17, 3) := allD_get dtL_shapes_k0 40 rfl
theorem dL_shapes_64 : decode cL_shapes 64 = .ok (.istore 10, 2) := allD_get dtL_shapes_k0 41 rfl
theorem dL_shapes_66 : decode cL_shapes 66 = .ok (.aload_n 0, 1) := allD_get dtL_shapes_k0 42 rfl
theorem dL_shapes_67 : decode cL_shapes 67 = .ok (.invokestatic 59, 3) := allD_get dtL_shapes_k0 43 rfl
theorem dL_shapes_70 : decode cL_shapes 70 = .ok (.lstore 11, 2) := allD_get dtL_shapes_k0 44 rfl
theorem dL_shapes_72 : decode cL_shapes 72 = .ok (.iload_n 2, 1) := allD_get dtL_shapes_k0 45 rfl
theorem dL_shapes_73 : decode cL_shapes 73 = .ok (.iconst 1, 1) := allD_get dtL_shapes_k0 46 rfl
theorem dL_shapes_74 : decode cL_shapes 74 = .ok (.iand, 1) := allD_get dtL_shapes_k0 47 rfl
theorem dL_shapes_75 : decode cL_shapes 75 = .ok (.ifCond .ne 7, 3) := allD_get dtL_shapes_k0 48 rfl
theorem dL_shapes_78 : decode cL_shapes 78 = .ok (.iconst 1, 1) := allD_get dtL_shapes_k0 49 rfl
theorem dL_shapes_79 : decode cL_shapes 79 = .ok (.goto 4, 3) := allD_get dtL_shapes_k0 50 rfl
theorem dL_shapes_82 : decode cL_shapes 82 = .ok (.iconst 0, 1) := allD_get dtL_shapes_k0 51 rfl
theorem dL_shapes_83 : decode cL_shapes 83 = .ok (.istore 13, 2) := allD_get dtL_shapes_k0 52 rfl
theorem dL_shapes_85 : decode cL_shapes 85 = .ok (.iconst 1, 1) := allD_get dtL_shapes_k0 53 rfl
theorem dL_shapes_86 : decode cL_shapes 86 = .ok (.iload_n 3, 1) := allD_get dtL_shapes_k0 54 rfl
theorem dL_shapes_87 : decode cL_shapes 87 = .ok (.bipush 120, 2) := allD_get dtL_shapes_k0 55 rfl
theorem dL_shapes_89 : decode cL_shapes 89 = .ok (.invokestatic 35, 3) := allD_get dtL_shapes_k0 56 rfl
theorem dL_shapes_92 : decode cL_shapes 92 = .ok (.iadd, 1) := allD_get dtL_shapes_k0 57 rfl
theorem dL_shapes_93 : decode cL_shapes 93 = .ok (.istore 14, 2) := allD_get dtL_shapes_k0 58 rfl
theorem dL_shapes_95 : decode cL_shapes 95 = .ok (.iload 13, 2) := allD_get dtL_shapes_k0 59 rfl
def tbL_shapes_k1 : List (Nat × Instr × Nat) := [(97, .ifCond .eq 19, 3), (100, .aload_n 0, 1), (101, .iload_n 1, 1), (102, .iconst 1, 1), (103, .iload_n 3, 1), (104, .bipush 8, 2), (106, .invokestatic 35, 3), (109, .iadd, 1), (110, .invokevirtual 66, 3), (113, .goto 10, 3), (116, .aload_n 0, 1), (117, .iload_n 1, 1), (118, .iload 14, 2), (120, .invokevirtual 69, 3), (123, .istore 15, 2), (125, .iload 15, 2), (127, .bipush (-5), 2), (129, .if_icmp .ne 19, 3), (132, .aload_n 0, 1), (133, .invokestatic 59, 3), (136, .lload 11, 2), (138, .lcmp, 1), (139, .ifCond .ne 7, 3), (142, .iconst 1, 1), (143, .goto 4, 3), (146, .iconst 0, 1), (147, .ireturn, 1), (148, .aload_n 0, 1), (149, .iload_n 1, 1), (150, .iconst 1, 1), (151, .invokevirtual 17, 3), (154, .istore 16, 2), (156, .aload_n 0, 1), (157, .iload_n 1, 1), (158, .iconst 0, 1), (159, .iconst 0, 1), (160, .invokevirtual 23, 3), (163, .iload 5, 2), (165, .if_icmp .ne 49, 3), (168, .aload_n 0, 1), (169, .iload_n 1, 1), (170, .iconst 0, 1), (171, .iconst 1, 1), (172, .invokevirtual 23, 3), (175, .iload 6, 2), (177, .if_icmp .ne 37, 3), (180, .aload_n 0, 1), (181, .iload_n 1, 1), (182, .iload 16, 2), (184, .iconst 1, 1), (185, .isub, 1), (186, .iconst 0, 1), (187, .invokevirtual 23, 3), (190, .iload 7, 2), (192, .if_icmp .ne 22, 3), (195, .aload_n 0, 1), (196, .iload_n 1, 1), (197, .iload 16, 2), (199, .iconst 1, 1), (200, .isub, 1)]
set_option maxRecDepth 100000 in
theorem dtL_shapes_k1 : allD cL_shapes tbL_shapes_k1 = true := by decide +kernel
theorem dL_shapes_97 : decode cL_shapes 97 = .ok (.ifCond .eq 19, 3) := allD_get dtL_shapes_k1 0 rfl
theorem dL_shapes_100 : decode cL_shapes 100 = .ok (.aload_n 0, 1) := allD_get dtL_shapes_k1 1 rfl
theorem dL_shapes_101 : decode cL_shapes 101 = .ok (.iload_n 1, 1) := allD_get dtL_shapes_k1 2 rfl
theorem dL_shapes_102 : decode cL_shapes 102 = .ok (.iconst 1, 1) := allD_get dtL_shapes_k1 3 rfl
theorem dL_shapes_103 : decode cL_shapes 103 = .ok (.iload_n 3, 1) := allD_get dtL_shapes_k1 4 rfl
theorem dL_shapes_104 : decode cL_shapes 104 = .ok (.bipush 8, 2) := allD_get dtL_shapes_k1 5 rfl
theorem dL_shapes_106 : decode cL_shapes 106 = .ok (.invokestatic 35, 3) := allD_get dtL_shapes_k1 6 rfl
theorem dL_shapes_109 : decode cL_shapes 109 = .ok (.iadd, 1) := allD_get dtL_shapes_k1 7 rfl
theorem dL_shapes_110 : decode cL_shapes 110 = .ok (.invokevirtual 66, 3) := allD_get dtL_shapes_k1 8 rfl
theorem dL_shapes_113 : decode cL_shapes 113 = .ok (.goto 10, 3) := allD_get dtL_shapes_k1 9 rfl
theorem dL_shapes_116 : decode cL_shapes 116 = .ok (.aload_n 0, 1) := allD_get dtL_shapes_k1 10 rfl
theorem dL_shapes_117 : decode cL_shapes 117 = .ok (.iload_n 1, 1) := allD_get dtL_shapes_k1 11 rfl
theorem dL_shapes_118 : decode cL_shapes 118 = .ok (.iload 14, 2) := allD_get dtL_shapes_k1 12 rfl
theorem dL_shapes_120 : decode cL_shapes 120 = .ok (.invokevirtual 69, 3) := allD_get dtL_shapes_k1 13 rfl
theorem dL_shapes_123 : decode cL_shapes 123 = .ok (.istore 15, 2) := allD_get dtL_shapes_k1 14 rfl
theorem dL_shapes_125 : decode cL_shapes 125 = .ok (.iload 15, 2) := allD_get dtL_shapes_k1 15 rfl
theorem dL_shapes_127 : decode cL_shapes 127 = .ok (.bipush (-5), 2) := allD_get dtL_shapes_k1 16 rfl
theorem dL_shapes_129 : decode cL_shapes 129 = .ok (.if_icmp .ne 19, 3) := allD_get dtL_shapes_k1 17 rfl
theorem dL_shapes_132 : decode cL_shapes 132 = .ok (.aload_n 0, 1) := allD_get dtL_shapes_k1 18 rfl
theorem dL_shapes_133 : decode cL_shapes 133 = .ok (.invokestatic 59, 3) := allD_get dtL_shapes_k1 19 rfl
theorem dL_shapes_136 : decode cL_shapes 136 = .ok (.lload 11, 2) := allD_get dtL_shapes_k1 20 rfl
theorem dL_shapes_138 : decode cL_shapes 138 = .ok (.lcmp, 1) := allD_get dtL_shapes_k1 21 rfl
theorem dL_shapes_139 : decode cL_shapes 139 = .ok (.ifCond .ne 7, 3) := allD_get dtL_shapes_k1 22 rfl
theorem dL_shapes_142 : decode cL_shapes 142 = .ok (.iconst 1, 1) := allD_get dtL_shapes_k1 23 rfl
theorem dL_shapes_143 : decode cL_shapes 143 = .ok (.goto 4, 3) := allD_get dtL_shapes_k1 24 rfl
theorem dL_shapes_146 : decode cL_shapes 146 = .ok (.iconst 0, 1) := allD_get dtL_shapes_k1 25 rfl
theorem dL_shapes_147 : decode cL_shapes 147 = .ok (.ireturn, 1) := allD_get dtL_shapes_k1 26 rfl
theorem dL_shapes_148 : decode cL_shapes 148 = .ok (.aload_n 0, 1) := allD_get dtL_shapes_k1 27 rfl
theorem dL_shapes_149 : decode cL_shapes 149 = .ok (.iload_n 1, 1) := allD_get dtL_shapes_k1 28 rfl
theorem dL_shapes_150 : decode cL_shapes 150 = .ok (.iconst 1, 1) := allD_get dtL_shapes_k1 29 rfl
theorem dL_shapes_151 : decode cL_shapes 151 = .ok (.invokevirtual 17, 3) := allD_get dtL_shapes_k1 30 rfl
theorem dL_shapes_154 : decode cL_shapes 154 = .ok (.istore 16, 2) := allD_get dtL_shapes_k1 31 rfl
theorem dL_shapes_156 : decode cL_shapes 156 = .ok (.aload_n 0, 1) := allD_get dtL_shapes_k1 32 rfl
theorem dL_shapes_157 : decode cL_shapes 157 = .ok (.iload_n 1, 1) := allD_get dtL_shapes_k1 33 rfl
theorem dL_shapes_158 : decode cL_shapes 158 = .ok (.iconst 0, 1) := allD_get dtL_shapes_k1 34 rfl
theorem dL_shapes_159 : decode cL_shapes 159 = .ok (.iconst 0, 1) := allD_get dtL_shapes_k1 35 rfl
theorem dL_shapes_160 : decode cL_shapes 160 = .ok (.invokevirtual 23, 3) := allD_get dtL_shapes_k1 36 rfl
theorem dL_shapes_163 : decode cL_shapes 163 = .ok (.iload 5, 2) := allD_get dtL_shapes_k1 37 rfl
theorem dL_shapes_165 : decode cL_shapes 165 = .ok (.if_icmp .ne 49, 3) := allD_get dtL_shapes_k1 38 rfl
theorem dL_shapes_168 : decode cL_shapes 168 = .ok (.aload_n 0, 1) := allD_get dtL_shapes_k1 39 rfl
theorem dL_shapes_169 : decode cL_shapes 169 = .ok (.iload_n 1, 1) := allD_get dtL_shapes_k1 40 rfl
theorem dL_shapes_170 : decode cL_shapes 170 = .ok (.iconst 0, 1) := allD_get dtL_shapes_k1 41 rfl
theorem dL_shapes_171 : decode cL_shapes 171 = .ok (.iconst 1, 1) := allD_get dtL_shapes_k1 42 rfl
theorem dL_shapes_172 : decode cL_shapes 172 = .ok (.invokevirtual 23, 3) := allD_get dtL_shapes_k1 43 rfl
theorem dL_shapes_175 : decode cL_shapes 175 = .ok (.iload 6, 2) := allD_get dtL_shapes_k1 44 rfl
theorem dL_shapes_177 : decode cL_shapes 177 = .ok (.if_icmp .ne 37, 3) := allD_get dtL_shapes_k1 45 rfl
theorem dL_shapes_180 : decode cL_shapes 180 = .ok (.aload_n 0, 1) := allD_get dtL_shapes_k1 46 rfl
theorem dL_shapes_181 : decode cL_shapes 181 = .ok (.iload_n 1, 1) := allD_get dtL_shapes_k1 47 rfl
theorem dL_shapes_182 : decode cL_shapes 182 = .ok (.iload 16, 2) := allD_get dtL_shapes_k1 48 rfl
theorem dL_shapes_184 : decode cL_shapes 184 = .ok (.iconst 1, 1) := allD_get dtL_shapes_k1 49 rfl
theorem dL_shapes_185 : decode cL_shapes 185 = .ok (.isub, 1) := allD_get dtL_shapes_k1 50 rfl
theorem dL_shapes_186 : decode cL_shapes 186 = .ok (.iconst 0, 1) := allD_get dtL_shapes_k1 51 rfl
theorem dL_shapes_187 : decode cL_shapes 187 = .ok (.invokevirtual 23, 3) := allD_get dtL_shapes_k1 52 rfl
theorem dL_shapes_190 : decode cL_shapes 190 = .ok (.iload 7, 2) := allD_get dtL_shapes_k1 53 rfl
theorem dL_shapes_192 : decode cL_shapes 192 = .ok (.if_icmp .ne 22, 3) := allD_get dtL_shapes_k1 54 rfl
theorem dL_shapes_195 : decode cL_shapes 195 = .ok (.aload_n 0, 1) := allD_get dtL_shapes_k1 55 rfl
theorem dL_shapes_196 : decode cL_shapes 196 = .ok (.iload_n 1, 1) := allD_get dtL_shapes_k1 56 rfl
theorem dL_shapes_197 : decode cL_shapes 197 = .ok (.iload 16, 2) := allD_get dtL_shapes_k1 57 rfl
theorem dL_shapes_199 : decode cL_shapes 199 = .ok (.iconst 1, 1) := allD_get dtL_shapes_k1 58 rfl
theorem dL_shapes_200 : decode cL_shapes 200 = .ok (.isub, 1) := allD_get dtL_shapes_k1 59 rfl
def tbL_shapes_k2 : List (Nat × Instr × Nat) := [(201, .iconst 1, 1), (202, .invokevirtual 23, 3), (205, .iload 8, 2), (207, .if_icmp .ne 7, 3), (210, .iconst 1, 1), (211, .goto 4, 3), (214, .iconst 0, 1), (215, .istore 17, 2), (217, .iload 15, 2), (219, .iload 16, 2), (221, .if_icmp .ne 25, 3), (224, .iload 16, 2), (226, .iload 4, 2), (228, .if_icmp .gt 18, 3), (231, .iload 17, 2), (233, .ifCond .eq 13, 3), (236, .aload_n 0, 1), (237, .iconst 0, 1), (238, .invokevirtual 9, 3), (241, .iload 9, 2), (243, .if_icmp .eq 5, 3), (246, .iconst 0, 1), (247, .ireturn, 1), (248, .iconst 1, 1), (249, .istore 18, 2), (251, .iload 18, 2), (253, .iconst 1, 1), (254, .iadd, 1), (255, .iload 16, 2), (257, .if_icmp .ge 65, 3), (260, .iload 13, 2), (262, .ifCond .ne 60, 3), (265, .aload_n 0, 1), (266, .iload_n 1, 1), (267, .iload 18, 2), (269, .iconst 0, 1), (270, .invokevirtual 23, 3), (273, .aload_n 0, 1), (274, .iload_n 1, 1), (275, .iload 18, 2), (277, .iconst 1, 1), (278, .isub, 1), (279, .iconst 0, 1), (280, .invokevirtual 23, 3), (283, .isub, 1), (284, .aload_n 0, 1), (285, .iload_n 1, 1), (286, .iload 18, 2), (288, .iconst 1, 1), (289, .invokevirtual 23, 3), (292, .aload_n 0, 1), (293, .iload_n 1, 1), (294, .iload 18, 2), (296, .iconst 1, 1), (297, .isub, 1), (298, .iconst 1, 1), (299, .invokevirtual 23, 3), (302, .isub, 1), (303, .invokestatic 27, 3), (306, .iload 14, 2)]
set_option maxRecDepth 100000 in
theorem dtL_shapes_k2 : allD cL_shapes tbL_shapes_k2 = true := by decide +kernel
theorem dL_shapes_201 : decode cL_shapes 201 = .ok (.iconst 1, 1) := allD_get dtL_shapes_k2 0 rfl
theorem dL_shapes_202 : decode cL_shapes 202 = .ok (.invokevirtual 23, 3) := allD_get dtL_shapes_k2 1 rfl
theorem dL_shapes_205 : decode cL_shapes 205 = .ok (.iload 8, 2) := allD_get dtL_shapes_k2 2 rfl
theorem dL_shapes_207 : decode cL_shapes 207 = .ok (.if_icmp .ne 7, 3) := allD_get dtL_shapes_k2 3 rfl
theorem dL_shapes_210 : decode cL_shapes 210 = .ok (.iconst 1, 1) := allD_get dtL_shapes_k2 4 rfl
theorem dL_shapes_211 : decode cL_shapes 211 = .ok (.goto 4, 3) := allD_get dtL_shapes_k2 5 rfl
theorem dL_shapes_214 : decode cL_shapes 214 = .ok (.iconst 0, 1) := allD_get dtL_shapes_k2 6 rfl
theorem dL_shapes_215 : decode cL_shapes 215 = .ok (.istore 17, 2) := allD_get dtL_shapes_k2 7 rfl
theorem dL_shapes_217 : decode cL_shapes 217 = .ok (.iload 15, 2) := allD_get dtL_shapes_k2 8 rfl
theorem dL_shapes_219 : decode cL_shapes 219 = .ok (.iload 16, 2) := allD_get dtL_shapes_k2 9 rfl
theorem dL_shapes_221 : decode cL_shapes 221 = .ok (.if_icmp .ne 25, 3) := allD_get dtL_shapes_k2 10 rfl
theorem dL_shapes_224 : decode cL_shapes 224 = .ok (.iload 16, 2) := allD_get dtL_shapes_k2 11 rfl
theorem dL_shapes_226 : decode cL_shapes 226 = .ok (.iload 4, 2) := allD_get dtL_shapes_k2 12 rfl
theorem dL_shapes_228 : decode cL_shapes 228 = .ok (.if_icmp .gt 18, 3) := allD_get dtL_shapes_k2 13 rfl
theorem dL_shapes_231 : decode cL_shapes 231 = .ok (.iload 17, 2) := allD_get dtL_shapes_k2 14 rfl
theorem dL_shapes_233 : decode cL_shapes 233 = .ok (.ifCond .eq 13, 3) := allD_get dtL_shapes_k2 15 rfl
theorem dL_shapes_236 : decode cL_shapes 236 = .ok (.aload_n 0, 1) := allD_get dtL_shapes_k2 16 rfl
theorem dL_shapes_237 : decode cL_shapes 237 = .ok (.iconst 0, 1) := allD_get dtL_shapes_k2 17 rfl
theorem dL_shapes_238 : decode cL_shapes 238 = .ok (.invokevirtual 9, 3) := allD_get dtL_shapes_k2 18 rfl
theorem dL_shapes_241 : decode cL_shapes 241 = .ok (.iload 9, 2) := allD_get dtL_shapes_k2 19 rfl
theorem dL_shapes_243 : decode cL_shapes 243 = .ok (.if_icmp .eq 5, 3) := allD_get dtL_shapes_k2 20 rfl
theorem dL_shapes_246 : decode cL_shapes 246 = .ok (.iconst 0, 1) := allD_get dtL_shapes_k2 21 rfl
theorem dL_shapes_247 : decode cL_shapes 247 = .ok (.ireturn, 1) := allD_get dtL_shapes_k2 22 rfl
theorem dL_shapes_248 : decode cL_shapes 248 = .ok (.iconst 1, 1) := allD_get dtL_shapes_k2 23 rfl
theorem dL_shapes_249 : decode cL_shapes 249 = .ok (.istore 18, 2) := allD_get dtL_shapes_k2 24 rfl
theorem dL_shapes_251 : decode cL_shapes 251 = .ok (.iload 18, 2) := allD_get dtL_shapes_k2 25 rfl
theorem dL_shapes_253 : decode cL_shapes 253 = .ok (.iconst 1, 1) := allD_get dtL_shapes_k2 26 rfl
theorem dL_shapes_254 : decode cL_shapes 254 = .ok (.iadd, 1) := allD_get dtL_shapes_k2 27 rfl
theorem dL_shapes_255 : decode cL_shapes 255 = .ok (.iload 16, 2) := allD_get dtL_shapes_k2 28 rfl
theorem dL_shapes_257 : decode cL_shapes 257 = .ok (.if_icmp .ge 65, 3) := allD_get dtL_shapes_k2 29 rfl
theorem dL_shapes_260 : decode cL_shapes 260 = .ok (.iload 13, 2) := allD_get dtL_shapes_k2 30 rfl
theorem dL_shapes_262 : decode cL_shapes 262 = .ok (.ifCond .ne 60, 3) := allD_get dtL_shapes_k2 31 rfl
theorem dL_shapes_265 : decode cL_shapes 265 = .ok (.aload_n 0, 1) := allD_get dtL_shapes_k2 32 rfl
theorem dL_shapes_266 : decode cL_shapes 266 = .ok (.iload_n 1, 1) := allD_get dtL_shapes_k2 33 rfl
theorem dL_shapes_267 : decode cL_shapes 267 = .ok (.iload 18, 2) := allD_get dtL_shapes_k2 34 rfl
theorem dL_shapes_269 : decode cL_shapes 269 = .ok (.iconst 0, 1) := allD_get dtL_shapes_k2 35 rfl
theorem dL_shapes_270 : decode cL_shapes 270 = .ok (.invokevirtual 23, 3) := allD_get dtL_shapes_k2 36 rfl
theorem dL_shapes_273 : decode cL_shapes 273 = .ok (.aload_n 0, 1) := allD_get dtL_shapes_k2 37 rfl
theorem dL_shapes_274 : decode cL_shapes 274 = .ok (.iload_n 1, 1) := allD_get dtL_shapes_k2 38 rfl
theorem dL_shapes_275 : decode cL_shapes 275 = .ok (.iload 18, 2) := allD_get dtL_shapes_k2 39 rfl
theorem dL_shapes_277 : decode cL_shapes 277 = .ok (.iconst 1, 1) := allD_get dtL_shapes_k2 40 rfl
theorem dL_shapes_278 : decode cL_shapes 278 = .ok (.isub, 1) := allD_get dtL_shapes_k2 41 rfl
theorem dL_shapes_279 : decode cL_shapes 279 = .ok (.iconst 0, 1) := allD_get dtL_shapes_k2 42 rfl
theorem dL_shapes_280 : decode cL_shapes 280 = .ok (.invokevirtual 23, 3) := allD_get dtL_shapes_k2 43 rfl
theorem dL_shapes_283 : decode cL_shapes 283 = .ok (.isub, 1) := allD_get dtL_shapes_k2 44 rfl
theorem dL_shapes_284 : decode cL_shapes 284 = .ok (.aload_n 0, 1) := allD_get dtL_shapes_k2 45 rfl
theorem dL_shapes_285 : decode cL_shapes 285 = .ok (.iload_n 1, 1) := allD_get dtL_shapes_k2 46 rfl
theorem dL_shapes_286 : decode cL_shapes 286 = .ok (.iload 18, 2) := allD_get dtL_shapes_k2 47 rfl
theorem dL_shapes_288 : decode cL_shapes 288 = .ok (.iconst 1, 1) := allD_get dtL_shapes_k2 48 rfl
theorem dL_shapes_289 : decode cL_shapes 289 = .ok (.invokevirtual 23, 3) := allD_get dtL_shapes_k2 49 rfl
theorem dL_shapes_292 : decode cL_shapes 292 = .ok (.aload_n 0, 1) := allD_get dtL_shapes_k2 50 rfl
theorem dL_shapes_293 : decode cL_shapes 293 = .ok (.iload_n 1, 1) := allD_get dtL_shapes_k2 51 rfl
theorem dL_shapes_294 : decode cL_shapes 294 = .ok (.iload 18, 2) := allD_get dtL_shapes_k2 52 rfl
theorem dL_shapes_296 : decode cL_shapes 296 = .ok (.iconst 1, 1) := allD_get dtL_shapes_k2 53 rfl
theorem dL_shapes_297 : decode cL_shapes 297 = .ok (.isub, 1) := allD_get dtL_shapes_k2 54 rfl
theorem dL_shapes_298 : decode cL_shapes 298 = .ok (.iconst 1, 1) := allD_get dtL_shapes_k2 55 rfl
theorem dL_shapes_299 : decode cL_shapes 299 = .ok (.invokevirtual 23, 3) := allD_get dtL_shapes_k2 56 rfl
theorem dL_shapes_302 : decode cL_shapes 302 = .ok (.isub, 1) := allD_get dtL_shapes_k2 57 rfl
theorem dL_shapes_303 : decode cL_shapes 303 = .ok (.invokestatic 27, 3) := allD_get dtL_shapes_k2 58 rfl
theorem dL_shapes_306 : decode cL_shapes 306 = .ok (.iload 14, 2) := allD_get dtL_shapes_k2 59 rfl
def tbL_shapes_k3 : List (Nat × Instr × Nat) := [(308, .iload 14, 2), (310, .imul, 1), (311, .if_icmp .ge 5, 3), (314, .iconst 0, 1), (315, .ireturn, 1), (316, .iinc 18 1, 3), (319, .goto (-68), 3), (322, .iload 13, 2), (324, .ifCond .ne 22, 3), (327, .iload 16, 2), (329, .iload 4, 2), (331, .if_icmp .ge 47, 3), (334, .aload_n 0, 1), (335, .iload_n 1, 1), (336, .iload 14, 2), (338, .invokevirtual 69, 3), (341, .bipush (-5), 2), (343, .if_icmp .ne 35, 3), (346, .aload_n 0, 1), (347, .iload_n 1, 1), (348, .bipush 9, 2), (350, .invokevirtual 66, 3), (353, .bipush (-2), 2), (355, .if_icmp .ne 23, 3), (358, .aload_n 0, 1), (359, .iload_n 1, 1), (360, .iconst 0, 1), (361, .invokevirtual 69, 3), (364, .bipush (-2), 2), (366, .if_icmp .ne 12, 3), (369, .iload 10, 2), (371, .ifCond .lt 7, 3), (374, .iconst 1, 1), (375, .goto 4, 3), (378, .iconst 0, 1), (379, .ireturn, 1)]
set_option maxRecDepth 100000 in
theorem dtL_shapes_k3 : allD cL_shapes tbL_shapes_k3 = true := by decide +kernel
theorem dL_shapes_308 : decode cL_shapes 308 = .ok (.iload 14, 2) := allD_get dtL_shapes_k3 0 rfl
theorem dL_shapes_310 : decode cL_shapes 310 = .ok (.imul, 1) := allD_get dtL_shapes_k3 1 rfl
theorem dL_shapes_311 : decode cL_shapes 311 = .ok (.if_icmp .ge 5, 3) := allD_get dtL_shapes_k3 2 rfl
theorem dL_shapes_314 : decode cL_shapes 314 = .ok (.iconst 0, 1) := allD_get dtL_shapes_k3 3 rfl
theorem dL_shapes_315 : decode cL_shapes 315 = .ok (.ireturn, 1) := allD_get dtL_shapes_k3 4 rfl
theorem dL_shapes_316 : decode cL_shapes 316 = .ok (.iinc 18 1, 3) := allD_get dtL_shapes_k3 5 rfl
theorem dL_shapes_319 : decode cL_shapes 319 = .ok (.goto (-68), 3) := allD_get dtL_shapes_k3 6 rfl
theorem dL_shapes_322 : decode cL_shapes 322 = .ok (.iload 13, 2) := allD_get dtL_shapes_k3 7 rfl
theorem dL_shapes_324 : decode cL_shapes 324 = .ok (.ifCond .ne 22, 3) := allD_get dtL_shapes_k3 8 rfl
theorem dL_shapes_327 : decode cL_shapes 327 = .ok (.iload 16, 2) := allD_get dtL_shapes_k3 9 rfl
theorem dL_shapes_329 : decode cL_shapes 329 = .ok (.iload 4, 2) := allD_get dtL_shapes_k3 10 rfl
theorem dL_shapes_331 : decode cL_shapes 331 = .ok (.if_icmp .ge 47, 3) := allD_get dtL_shapes_k3 11 rfl
theorem dL_shapes_334 : decode cL_shapes 334 = .ok (.aload_n 0, 1) := allD_get dtL_shapes_k3 12 rfl
theorem dL_shapes_335 : decode cL_shapes 335 = .ok (.iload_n 1, 1) := allD_get dtL_shapes_k3 13 rfl
theorem dL_shapes_336 : decode cL_shapes 336 = .ok (.iload 14, 2) := allD_get dtL_shapes_k3 14 rfl
theorem dL_shapes_338 : decode cL_shapes 338 = .ok (.invokevirtual 69, 3) := allD_get dtL_shapes_k3 15 rfl
theorem dL_shapes_341 : decode cL_shapes 341 = .ok (.bipush (-5), 2) := allD_get dtL_shapes_k3 16 rfl
theorem dL_shapes_343 : decode cL_shapes 343 = .ok (.if_icmp .ne 35, 3) := allD_get dtL_shapes_k3 17 rfl
theorem dL_shapes_346 : decode cL_shapes 346 = .ok (.aload_n 0, 1) := allD_get dtL_shapes_k3 18 rfl
theorem dL_shapes_347 : decode cL_shapes 347 = .ok (.iload_n 1, 1) := allD_get dtL_shapes_k3 19 rfl
theorem dL_shapes_348 : decode cL_shapes 348 = .ok (.bipush 9, 2) := allD_get dtL_shapes_k3 20 rfl
theorem dL_shapes_350 : decode cL_shapes 350 = .ok (.invokevirtual 66, 3) := allD_get dtL_shapes_k3 21 rfl
theorem dL_shapes_353 : decode cL_shapes 353 = .ok (.bipush (-2), 2) := allD_get dtL_shapes_k3 22 rfl
theorem dL_shapes_355 : decode cL_shapes 355 = .ok (.if_icmp .ne 23, 3) := allD_get dtL_shapes_k3 23 rfl
theorem dL_shapes_358 : decode cL_shapes 358 = .ok (.aload_n 0, 1) := allD_get dtL_shapes_k3 24 rfl
theorem dL_shapes_359 : decode cL_shapes 359 = .ok (.iload_n 1, 1) := allD_get dtL_shapes_k3 25 rfl
theorem dL_shapes_360 : decode cL_shapes 360 = .ok (.iconst 0, 1) := allD_get dtL_shapes_k3 26 rfl
theorem dL_shapes_361 : decode cL_shapes 361 = .ok (.invokevirtual 69, 3) := allD_get dtL_shapes_k3 27 rfl
theorem dL_shapes_364 : decode cL_shapes 364 = .ok (.bipush (-2), 2) := allD_get dtL_shapes_k3 28 rfl
theorem dL_shapes_366 : decode cL_shapes 366 = .ok (.if_icmp .ne 12, 3) := allD_get dtL_shapes_k3 29 rfl
theorem dL_shapes_369 : decode cL_shapes 369 = .ok (.iload 10, 2) := allD_get dtL_shapes_k3 30 rfl
theorem dL_shapes_371 : decode cL_shapes 371 = .ok (.ifCond .lt 7, 3) := allD_get dtL_shapes_k3 31 rfl
theorem dL_shapes_374 : decode cL_shapes 374 = .ok (.iconst 1, 1) := allD_get dtL_shapes_k3 32 rfl
theorem dL_shapes_375 : decode cL_shapes 375 = .ok (.goto 4, 3) := allD_get dtL_shapes_k3 33 rfl
theorem dL_shapes_378 : decode cL_shapes 378 = .ok (.iconst 0, 1) := allD_get dtL_shapes_k3 34 rfl
theorem dL_shapes_379 : decode cL_shapes 379 = .ok (.ireturn, 1) := allD_get dtL_shapes_k3 35 rfl
def tbL_joins_k0 : List (Nat × Instr × Nat) := [(0, .iload_n 1, 1), (1, .iload_n 2, 1), (2, .if_icmp .ne 20, 3), (5, .aload_n 0, 1), (6, .iload_n 1, 1), (7, .iload_n 1, 1), (8, .invokevirtual 72, 3), (11, .bipush (-2), 2), (13, .if_icmp .ne 7, 3), (16, .iconst 1, 1), (17, .goto 4, 3), (20, .iconst 0, 1), (21, .ireturn, 1), (22, .aload_n 0, 1), (23, .iload_n 1, 1), (24, .iconst 1, 1), (25, .invokevirtual 17, 3), (28, .istore_n 3, 1), (29, .aload_n 0, 1), (30, .iload_n 2, 1), (31, .iconst 1, 1), (32, .invokevirtual 17, 3), (35, .istore 4, 2), (37, .aload_n 0, 1), (38, .iload_n 1, 1), (39, .iload_n 3, 1), (40, .iconst 1, 1), (41, .isub, 1), (42, .iconst 0, 1), (43, .invokevirtual 23, 3), (46, .aload_n 0, 1), (47, .iload_n 2, 1), (48, .iconst 0, 1), (49, .iconst 0, 1), (50, .invokevirtual 23, 3), (53, .if_icmp .ne 26, 3), (56, .aload_n 0, 1), (57, .iload_n 1, 1), (58, .iload_n 3, 1), (59, .iconst 1, 1), (60, .isub, 1), (61, .iconst 1, 1), (62, .invokevirtual 23, 3), (65, .aload_n 0, 1), (66, .iload_n 2, 1), (67, .iconst 0, 1), (68, .iconst 1, 1), (69, .invokevirtual 23, 3), (72, .if_icmp .ne 7, 3), (75, .iconst 1, 1), (76, .goto 4, 3), (79, .iconst 0, 1), (80, .istore 5, 2), (82, .iload_n 3, 1), (83, .iload 4, 2), (85, .iadd, 1), (86, .iload 5, 2), (88, .ifCond .eq 7, 3), (91, .iconst 1, 1), (92, .goto 4, 3)]
set_option maxRecDepth 100000 in
theorem dtL_joins_k0 : allD cL_joins tbL_joins_k0 = true := by decide +kernel
theorem dL_joins_0 : decode cL_joins 0 = .ok (.iload_n 1, 1) := allD_get dtL_joins_k0 0 rfl
theorem dL_joins_1 : decode cL_joins 1 = .ok (.iload_n 2, 1) := allD_get dtL_joins_k0 1 rfl
theorem dL_joins_2 : decode cL_joins 2 = .ok (.if_icmp .ne 20, 3) := allD_get dtL_joins_k0 2 rfl
theorem dL_joins_5 : decode cL_joins 5 = .ok (.aload_n 0, 1) := allD_get dtL_joins_k0 3 rfl
theorem dL_joins_6 : decode cL_joins 6 = .ok (.iload_n 1, 1) := allD_get dtL_joins_k0 4 rfl
theorem dL_joins_7 : decode cL_joins 7 = .ok (.iload_n 1, 1) := allD_get dtL_joins_k0 5 rfl
theorem dL_joins_8 : decode cL_joins 8 = .ok (.invokevirtual 72, 3) := allD_get dtL_joins_k0 6 rfl
theorem dL_joins_11 : decode cL_joins 11 = .ok (.bipush (-2), 2) := allD_get dtL_joins_k0 7 rfl
theorem dL_joins_13 : decode cL_joins 13 = .ok (.if_icmp .ne 7, 3) := allD_get dtL_joins_k0 8 rfl
theorem dL_joins_16 : decode cL_joins 16 = .ok (.iconst 1, 1) := allD_get dtL_joins_k0 9 rfl
theorem dL_joins_17 : decode cL_joins 17 = .ok (.goto 4, 3) := allD_get dtL_joins_k0 10 rfl
theorem dL_joins_20 : decode cL_joins 20 = .ok (.iconst 0, 1) := allD_get dtL_joins_k0 11 rfl
theorem dL_joins_21 : decode cL_joins 21 = .ok (.ireturn, 1) := allD_get dtL_joins_k0 12 rfl
theorem dL_joins_22 : decode cL_joins 22 = .ok (.aload_n 0, 1) := allD_get dtL_joins_k0 13 rfl
theorem dL_joins_23 : decode cL_joins 23 = .ok (.iload_n 1, 1) := allD_get dtL_joins_k0 14 rfl
theorem dL_joins_24 : decode cL_joins 24 = .ok (.iconst 1, 1) := allD_get dtL_joins_k0 15 rfl
theorem dL_joins_25 : decode cL_joins 25 = .ok (.invokevirtual 17, 3) := allD_get dtL_joins_k0 16 rfl
theorem dL_joins_28 : decode cL_joins 28 = .ok (.istore_n 3, 1) := allD_get dtL_joins_k0 17 rfl
theorem dL_joins_29 : decode cL_joins 29 = .ok (.aload_n 0, 1) := allD_get dtL_joins_k0 18 rfl
theorem dL_joins_30 : decode cL_joins 30 = .ok (.iload_n 2, 1) := allD_get dtL_joins_k0 19 rfl
theorem dL_joins_31 : decode cL_joins 31 = .ok (.iconst 1, 1) := allD_get dtL_joins_k0 20 rfl
theorem dL_joins_32 : decode cL_joins 32 = .ok (.invokevirtual 17, 3) := allD_get dtL_joins_k0 21 rfl
theorem dL_joins_35 : decode cL_joins 35 = .ok (.istore 4, 2) := allD_get dtL_joins_k0 22 rfl
theorem dL_joins_37 : decode cL_joins 37 = .ok (.aload_n 0, 1) := allD_get dtL_joins_k0 23 rfl
theorem dL_joins_38 : decode cL_joins 38 = .ok (.iload_n 1, 1) := allD_get dtL_joins_k0 24 rfl
theorem dL_joins_39 : decode cL_joins 39 = .ok (.iload_n 3, 1) := allD_get dtL_joins_k0 25 rfl
theorem dL_joins_40 : decode cL_joins 40 = .ok (.iconst 1, 1) := allD_get dtL_joins_k0 26 rfl
theorem dL_joins_41 : decode cL_joins 41 = .ok (.isub, 1) := allD_get dtL_joins_k0 27 rfl
theorem dL_joins_42 : decode cL_joins 42 = .ok (.iconst 0, 1) := allD_get dtL_joins_k0 28 rfl
theorem dL_joins_43 : decode cL_joins 43 = .ok (.invokevirtual 23, 3) := allD_get dtL_joins_k0 29 rfl
theorem dL_joins_46 : decode cL_joins 46 = .ok (.aload_n 0, 1) := allD_get dtL_joins_k0 30 rfl
theorem dL_joins_47 : decode cL_joins 47 = .ok (.iload_n 2, 1) := allD_get dtL_joins_k0 31 rfl
theorem dL_joins_48 : decode cL_joins 48 = .ok (.iconst 0, 1) := allD_get dtL_joins_k0 32 rfl
theorem dL_joins_49 : decode cL_joins 49 = .ok (.iconst 0, 1) := allD_get dtL_joins_k0 33 rfl
theorem dL_joins_50 : decode cL_joins 50 = .ok (.invokevirtual 23, 3) := allD_get dtL_joins_k0 34 rfl
theorem dL_joins_53 : decode cL_joins 53 = .ok (.if_icmp .ne 26, 3) := allD_get dtL_joins_k0 35 rfl
theorem dL_joins_56 : decode cL_joins 56 = .ok (.aload_n 0, 1) := allD_get dtL_joins_k0 36 rfl
theorem dL_joins_57 : decode cL_joins 57 = .ok (.iload_n 1, 1) := allD_get dtL_joins_k0 37 rfl
theorem dL_joins_58 : decode cL_joins 58 = .ok (.iload_n 3, 1) := allD_get dtL_joins_k0 38 rfl
theorem dL_joins_59 : decode cL_joins 59 = .ok (.iconst 1, 1) := allD_get dtL_joins_k0 39 rfl
theorem dL_joins_60 : decode cL_joins 60 = .ok (.isub, 1) := allD_get dtL_joins_k0 40 rfl
theorem dL_joins_61 : decode cL_joins 61 = .ok (.iconst 1, 1) := allD_get dtL_joins_k0 41 rfl
theorem dL_joins_62 : decode cL_joins 62 = .ok (.invokevirtual 23, 3) := allD_get dtL_joins_k0 42 rfl
theorem dL_joins_65 : decode cL_joins 65 = .ok (.aload_n 0, 1) := allD_get dtL_joins_k0 43 rfl
theorem dL_joins_66 : decode cL_joins 66 = .ok (.iload_n 2, 1) := allD_get dtL_joins_k0 44 rfl
theorem dL_joins_67 : decode cL_joins 67 = .ok (.iconst 0, 1) := allD_get dtL_joins_k0 45 rfl
theorem dL_joins_68 : decode cL_joins 68 = .ok (.iconst 1, 1) := allD_get dtL_joins_k0 46 rfl
theorem dL_joins_69 : decode cL_joins 69 = .ok (.invokevirtual 23, 3) := allD_get dtL_joins_k0 47 rfl
theorem dL_joins_72 : decode cL_joins 72 = .ok (.if_icmp .ne 7, 3) := allD_get dtL_joins_k0 48 rfl
theorem dL_joins_75 : decode cL_joins 75 = .ok (.iconst 1, 1) := allD_get dtL_joins_k0 49 rfl
theorem dL_joins_76 : decode cL_joins 76 = .ok (.goto 4, 3) := allD_get dtL_joins_k0 50 rfl
theorem dL_joins_79 : decode cL_joins 79 = .ok (.iconst 0, 1) := allD_get dtL_joins_k0 51 rfl
theorem dL_joins_80 : decode cL_joins 80 = .ok (.istore 5, 2) := allD_get dtL_joins_k0 52 rfl
theorem dL_joins_82 : decode cL_joins 82 = .ok (.iload_n 3, 1) := allD_get dtL_joins_k0 53 rfl
theorem dL_joins_83 : decode cL_joins 83 = .ok (.iload 4, 2) := allD_get dtL_joins_k0 54 rfl
theorem dL_joins_85 : decode cL_joins 85 = .ok (.iadd, 1) := allD_get dtL_joins_k0 55 rfl
theorem dL_joins_86 : decode cL_joins 86 = .ok (.iload 5, 2) := allD_get dtL_joins_k0 56 rfl
theorem dL_joins_88 : decode cL_joins 88 = .ok (.ifCond .eq 7, 3) := allD_get dtL_joins_k0 57 rfl
theorem dL_joins_91 : decode cL_joins 91 = .ok (.iconst 1, 1) := allD_get dtL_joins_k0 58 rfl
theorem dL_joins_92 : decode cL_joins 92 = .ok (.goto 4, 3) := allD_get dtL_joins_k0 59 rfl
def tbL_joins_k1 : List (Nat × Instr × Nat) := [(95, .iconst 0, 1), (96, .isub, 1), (97, .istore 6, 2), (99, .aload_n 0, 1), (100, .iload_n 1, 1), (101, .iconst 0, 1), (102, .invokevirtual 17, 3), (105, .istore 7, 2), (107, .aload_n 0, 1), (108, .iconst 0, 1), (109, .invokevirtual 9, 3), (112, .istore 8, 2), (114, .aload_n 0, 1), (115, .iload_n 2, 1), (116, .iload 4, 2), (118, .iconst 1, 1), (119, .isub, 1), (120, .iconst 0, 1), (121, .invokevirtual 23, 3), (124, .istore 9, 2), (126, .iload_n 1, 1), (127, .iload_n 2, 1), (128, .iload_n 1, 1), (129, .if_icmp .ge 7, 3), (132, .iconst 1, 1), (133, .goto 4, 3), (136, .iconst 0, 1), (137, .isub, 1), (138, .istore 10, 2), (140, .iload 6, 2), (142, .bipush 24, 2), (144, .if_icmp .le 20, 3), (147, .aload_n 0, 1), (148, .iload_n 1, 1), (149, .iload_n 2, 1), (150, .invokevirtual 72, 3), (153, .bipush (-3), 2), (155, .if_icmp .ne 7, 3), (158, .iconst 1, 1), (159, .goto 4, 3), (162, .iconst 0, 1), (163, .ireturn, 1), (164, .aload_n 0, 1), (165, .iload_n 1, 1), (166, .iload_n 2, 1), (167, .invokevirtual 72, 3), (170, .iload 10, 2), (172, .if_icmp .ne 59, 3), (175, .aload_n 0, 1), (176, .iload 10, 2), (178, .iconst 1, 1), (179, .invokevirtual 17, 3), (182, .iload 6, 2), (184, .if_icmp .ne 47, 3), (187, .aload_n 0, 1), (188, .iload 10, 2), (190, .iconst 0, 1), (191, .invokevirtual 17, 3), (194, .iload 7, 2), (196, .if_icmp .ne 35, 3)]
set_option maxRecDepth 100000 in
theorem dtL_joins_k1 : allD cL_joins tbL_joins_k1 = true := by decide +kernel
theorem dL_joins_95 : decode cL_joins 95 = .ok (.iconst 0, 1) := allD_get dtL_joins_k1 0 rfl
theorem dL_joins_96 : decode cL_joins 96 = .ok (.isub, 1) := allD_get dtL_joins_k1 1 rfl
theorem dL_joins_97 : decode cL_joins 97 = .ok (.istore 6, 2) := allD_get dtL_joins_k1 2 rfl
theorem dL_joins_99 : decode cL_joins 99 = .ok (.aload_n 0, 1) := allD_get dtL_joins_k1 3 rfl
theorem dL_joins_100 : decode cL_joins 100 = .ok (.iload_n 1, 1) := allD_get dtL_joins_k1 4 rfl
theorem dL_joins_101 : decode cL_joins 101 = .ok (.iconst 0, 1) := allD_get dtL_joins_k1 5 rfl
theorem dL_joins_102 : decode cL_joins 102 = .ok (.invokevirtual 17, 3) := allD_get dtL_joins_k1 6 rfl
theorem dL_joins_105 : decode cL_joins 105 = .ok (.istore 7, 2) := allD_get dtL_joins_k1 7 rfl
theorem dL_joins_107 : decode cL_joins 107 = .ok (.aload_n 0, 1) := allD_get dtL_joins_k1 8 rfl
theorem dL_joins_108 : decode cL_joins 108 = .ok (.iconst 0, 1) := allD_get dtL_joins_k1 9 rfl
theorem dL_joins_109 : decode cL_joins 109 = .ok (.invokevirtual 9, 3) := allD_get dtL_joins_k1 10 rfl
theorem dL_joins_112 : decode cL_joins 112 = .ok (.istore 8, 2) := allD_get dtL_joins_k1 11 rfl
theorem dL_joins_114 : decode cL_joins 114 = .ok (.aload_n 0, 1) := allD_get dtL_joins_k1 12 rfl
theorem dL_joins_115 : decode cL_joins 115 = .ok (.iload_n 2, 1) := allD_get dtL_joins_k1 13 rfl
theorem dL_joins_116 : decode cL_joins 116 = .ok (.iload 4, 2) := allD_get dtL_joins_k1 14 rfl
theorem dL_joins_118 : decode cL_joins 118 = .ok (.iconst 1, 1) := allD_get dtL_joins_k1 15 rfl
theorem dL_joins_119 : decode cL_joins 119 = .ok (.isub, 1) := allD_get dtL_joins_k1 16 rfl
theorem dL_joins_120 : decode cL_joins 120 = .ok (.iconst 0, 1) := allD_get dtL_joins_k1 17 rfl
theorem dL_joins_121 : decode cL_joins 121 = .ok (.invokevirtual 23, 3) := allD_get dtL_joins_k1 18 rfl
theorem dL_joins_124 : decode cL_joins 124 = .ok (.istore 9, 2) := allD_get dtL_joins_k1 19 rfl
theorem dL_joins_126 : decode cL_joins 126 = .ok (.iload_n 1, 1) := allD_get dtL_joins_k1 20 rfl
theorem dL_joins_127 : decode cL_joins 127 = .ok (.iload_n 2, 1) := allD_get dtL_joins_k1 21 rfl
theorem dL_joins_128 : decode cL_joins 128 = .ok (.iload_n 1, 1) := allD_get dtL_joins_k1 22 rfl
theorem dL_joins_129 : decode cL_joins 129 = .ok (.if_icmp .ge 7, 3) := allD_get dtL_joins_k1 23 rfl
theorem dL_joins_132 : decode cL_joins 132 = .ok (.iconst 1, 1) := allD_get dtL_joins_k1 24 rfl
theorem dL_joins_133 : decode cL_joins 133 = .ok (.goto 4, 3) := allD_get dtL_joins_k1 25 rfl
theorem dL_joins_136 : decode cL_joins 136 = .ok (.iconst 0, 1) := allD_get dtL_joins_k1 26 rfl
theorem dL_joins_137 : decode cL_joins 137 = .ok (.isub, 1) := allD_get dtL_joins_k1 27 rfl
theorem dL_joins_138 : decode cL_joins 138 = .ok (.istore 10, 2) := allD_get dtL_joins_k1 28 rfl
theorem dL_joins_140 : decode cL_joins 140 = .ok (.iload 6, 2) := allD_get dtL_joins_k1 29 rfl
theorem dL_joins_142 : decode cL_joins 142 = .ok (.bipush 24, 2) := allD_get dtL_joins_k1 30 rfl
theorem dL_joins_144 : decode cL_joins 144 = .ok (.if_icmp .le 20, 3) := allD_get dtL_joins_k1 31 rfl
theorem dL_joins_147 : decode cL_joins 147 = .ok (.aload_n 0, 1) := allD_get dtL_joins_k1 32 rfl
theorem dL_joins_148 : decode cL_joins 148 = .ok (.iload_n 1, 1) := allD_get dtL_joins_k1 33 rfl
theorem dL_joins_149 : decode cL_joins 149 = .ok (.iload_n 2, 1) := allD_get dtL_joins_k1 34 rfl
theorem dL_joins_150 : decode cL_joins 150 = .ok (.invokevirtual 72, 3) := allD_get dtL_joins_k1 35 rfl
theorem dL_joins_153 : decode cL_joins 153 = .ok (.bipush (-3), 2) := allD_get dtL_joins_k1 36 rfl
theorem dL_joins_155 : decode cL_joins 155 = .ok (.if_icmp .ne 7, 3) := allD_get dtL_joins_k1 37 rfl
theorem dL_joins_158 : decode cL_joins 158 = .ok (.iconst 1, 1) := allD_get dtL_joins_k1 38 rfl
theorem dL_joins_159 : decode cL_joins 159 = .ok (.goto 4, 3) := allD_get dtL_joins_k1 39 rfl
theorem dL_joins_162 : decode cL_joins 162 = .ok (.iconst 0, 1) := allD_get dtL_joins_k1 40 rfl
theorem dL_joins_163 : decode cL_joins 163 = .ok (.ireturn, 1) := allD_get dtL_joins_k1 41 rfl
theorem dL_joins_164 : decode cL_joins 164 = .ok (.aload_n 0, 1) := allD_get dtL_joins_k1 42 rfl
theorem dL_joins_165 : decode cL_joins 165 = .ok (.iload_n 1, 1) := allD_get dtL_joins_k1 43 rfl
theorem dL_joins_166 : decode cL_joins 166 = .ok (.iload_n 2, 1) := allD_get dtL_joins_k1 44 rfl
theorem dL_joins_167 : decode cL_joins 167 = .ok (.invokevirtual 72, 3) := allD_get dtL_joins_k1 45 rfl
theorem dL_joins_170 : decode cL_joins 170 = .ok (.iload 10, 2) := allD_get dtL_joins_k1 46 rfl
theorem dL_joins_172 : decode cL_joins 172 = .ok (.if_icmp .ne 59, 3) := allD_get dtL_joins_k1 47 rfl
theorem dL_joins_175 : decode cL_joins 175 = .ok (.aload_n 0, 1) := allD_get dtL_joins_k1 48 rfl
theorem dL_joins_176 : decode cL_joins 176 = .ok (.iload 10, 2) := allD_get dtL_joins_k1 49 rfl
theorem dL_joins_178 : decode cL_joins 178 = .ok (.iconst 1, 1) := allD_get dtL_joins_k1 50 rfl
theorem dL_joins_179 : decode cL_joins 179 = .ok (.invokevirtual 17, 3) := allD_get dtL_joins_k1 51 rfl
theorem dL_joins_182 : decode cL_joins 182 = .ok (.iload 6, 2) := allD_get dtL_joins_k1 52 rfl
theorem dL_joins_184 : decode cL_joins 184 = .ok (.if_icmp .ne 47, 3) := allD_get dtL_joins_k1 53 rfl
theorem dL_joins_187 : decode cL_joins 187 = .ok (.aload_n 0, 1) := allD_get dtL_joins_k1 54 rfl
theorem dL_joins_188 : decode cL_joins 188 = .ok (.iload 10, 2) := allD_get dtL_joins_k1 55 rfl
theorem dL_joins_190 : decode cL_joins 190 = .ok (.iconst 0, 1) := allD_get dtL_joins_k1 56 rfl
theorem dL_joins_191 : decode cL_joins 191 = .ok (.invokevirtual 17, 3) := allD_get dtL_joins_k1 57 rfl
theorem dL_joins_194 : decode cL_joins 194 = .ok (.iload 7, 2) := allD_get dtL_joins_k1 58 rfl
theorem dL_joins_196 : decode cL_joins 196 = .ok (.if_icmp .ne 35, 3) := allD_get dtL_joins_k1 59 rfl
def tbL_joins_k2 : List (Nat × Instr × Nat) := [(199, .aload_n 0, 1), (200, .iconst 0, 1), (201, .invokevirtual 9, 3), (204, .iload 8, 2), (206, .iconst 1, 1), (207, .isub, 1), (208, .if_icmp .ne 23, 3), (211, .aload_n 0, 1), (212, .iload 10, 2), (214, .iload 6, 2), (216, .iconst 1, 1), (217, .isub, 1), (218, .iconst 0, 1), (219, .invokevirtual 23, 3), (222, .iload 9, 2), (224, .if_icmp .ne 7, 3), (227, .iconst 1, 1), (228, .goto 4, 3), (231, .iconst 0, 1), (232, .ireturn, 1)]
set_option maxRecDepth 100000 in
theorem dtL_joins_k2 : allD cL_joins tbL_joins_k2 = true := by decide +kernel
theorem dL_joins_199 : decode cL_joins 199 = .ok (.aload_n 0, 1) := allD_get dtL_joins_k2 0 rfl
theorem dL_joins_200 : decode cL_joins 200 = .ok (.iconst 0, 1) := allD_get dtL_joins_k2 1 rfl
theorem dL_joins_201 : decode cL_joins 201 = .ok (.invokevirtual 9, 3) := allD_get dtL_joins_k2 2 rfl
theorem dL_joins_204 : decode cL_joins 204 = .ok (.iload 8, 2) := allD_get dtL_joins_k2 3 rfl
theorem dL_joins_206 : decode cL_joins 206 = .ok (.iconst 1, 1) := allD_get dtL_joins_k2 4 rfl
theorem dL_joins_207 : decode cL_joins 207 = .ok (.isub, 1) := allD_get dtL_joins_k2 5 rfl
theorem dL_joins_208 : decode cL_joins 208 = .ok (.if_icmp .ne 23, 3) := allD_get dtL_joins_k2 6 rfl
theorem dL_joins_211 : decode cL_joins 211 = .ok (.aload_n 0, 1) := allD_get dtL_joins_k2 7 rfl
theorem dL_joins_212 : decode cL_joins 212 = .ok (.iload 10, 2) := allD_get dtL_joins_k2 8 rfl
theorem dL_joins_214 : decode cL_joins 214 = .ok (.iload 6, 2) := allD_get dtL_joins_k2 9 rfl
theorem dL_joins_216 : decode cL_joins 216 = .ok (.iconst 1, 1) := allD_get dtL_joins_k2 10 rfl
theorem dL_joins_217 : decode cL_joins 217 = .ok (.isub, 1) := allD_get dtL_joins_k2 11 rfl
theorem dL_joins_218 : decode cL_joins 218 = .ok (.iconst 0, 1) := allD_get dtL_joins_k2 12 rfl
theorem dL_joins_219 : decode cL_joins 219 = .ok (.invokevirtual 23, 3) := allD_get dtL_joins_k2 13 rfl
theorem dL_joins_222 : decode cL_joins 222 = .ok (.iload 9, 2) := allD_get dtL_joins_k2 14 rfl
theorem dL_joins_224 : decode cL_joins 224 = .ok (.if_icmp .ne 7, 3) := allD_get dtL_joins_k2 15 rfl
theorem dL_joins_227 : decode cL_joins 227 = .ok (.iconst 1, 1) := allD_get dtL_joins_k2 16 rfl
theorem dL_joins_228 : decode cL_joins 228 = .ok (.goto 4, 3) := allD_get dtL_joins_k2 17 rfl
theorem dL_joins_231 : decode cL_joins 231 = .ok (.iconst 0, 1) := allD_get dtL_joins_k2 18 rfl
theorem dL_joins_232 : decode cL_joins 232 = .ok (.ireturn, 1) := allD_get dtL_joins_k2 19 rfl
def tbL_history_k0 : List (Nat × Instr × Nat) := [(0, .aload_n 0, 1), (1, .invokestatic 59, 3), (4, .lstore_n 3, 1), (5, .aload_n 0, 1), (6, .bipush 8, 2), (8, .invokevirtual 9, 3), (11, .istore 5, 2), (13, .aload_n 0, 1), (14, .bipush 9, 2), (16, .invokevirtual 9, 3), (19, .ifCond .ne 33, 3), (22, .aload_n 0, 1), (23, .invokevirtual 75, 3), (26, .iload 5, 2), (28, .iconst 1, 1), (29, .isub, 1), (30, .if_icmp .ne 22, 3), (33, .aload_n 0, 1), (34, .invokestatic 59, 3), (37, .lload_n 1, 1), (38, .lcmp, 1), (39, .ifCond .ne 13, 3), (42, .aload_n 0, 1), (43, .bipush 9, 2), (45, .invokevirtual 9, 3), (48, .iconst 1, 1), (49, .if_icmp .eq 5, 3), (52, .iconst 0, 1), (53, .ireturn, 1), (54, .aload_n 0, 1), (55, .invokevirtual 79, 3), (58, .ifCond .ne 36, 3), (61, .aload_n 0, 1), (62, .invokestatic 59, 3), (65, .lload_n 3, 1), (66, .lcmp, 1), (67, .ifCond .ne 27, 3), (70, .aload_n 0, 1), (71, .bipush 8, 2), (73, .invokevirtual 9, 3), (76, .iload 5, 2), (78, .if_icmp .ne 16, 3), (81, .aload_n 0, 1), (82, .invokevirtual 79, 3), (85, .bipush (-5), 2), (87, .if_icmp .ne 7, 3), (90, .iconst 1, 1), (91, .goto 4, 3), (94, .iconst 0, 1), (95, .ireturn, 1)]
set_option maxRecDepth 100000 in
theorem dtL_history_k0 : allD cL_history tbL_history_k0 = true := by decide +kernel
theorem dL_history_0 : decode cL_history 0 = .ok (.aload_n 0, 1) := allD_get dtL_history_k0 0 rfl
theorem dL_history_1 : decode cL_history 1 = .ok (.invokestatic 59, 3) := allD_get dtL_history_k0 1 rfl
theorem dL_history_4 : decode cL_history 4 = .ok (.lstore_n 3, 1) := allD_get dtL_history_k0 2 rfl
theorem dL_history_5 : decode cL_history 5 = .ok (.aload_n 0, 1) := allD_get dtL_history_k0 3 rfl
theorem dL_history_6 : decode cL_history 6 = .ok (.bipush 8, 2) := allD_get dtL_history_k0 4 rfl
theorem dL_history_8 : decode cL_history 8 = .ok (.invokevirtual 9, 3) := allD_get dtL_history_k0 5 rfl
theorem dL_history_11 : decode cL_history 11 = .ok (.istore 5, 2) := allD_get dtL_history_k0 6 rfl
theorem dL_history_13 : decode cL_history 13 = .ok (.aload_n 0, 1) := allD_get dtL_history_k0 7 rfl
theorem dL_history_14 : decode cL_history 14 = .ok (.bipush 9, 2) := allD_get dtL_history_k0 8 rfl
theorem dL_history_16 : decode cL_history 16 = .ok (.invokevirtual 9, 3) := allD_get dtL_history_k0 9 rfl
theorem dL_history_19 : decode cL_history 19 = .ok (.ifCond .ne 33, 3) := allD_get dtL_history_k0 10 rfl
theorem dL_history_22 : decode cL_history 22 = .ok (.aload_n 0, 1) := allD_get dtL_history_k0 11 rfl
theorem dL_history_23 : decode cL_history 23 = .ok (.invokevirtual 75, 3) := allD_get dtL_history_k0 12 rfl
theorem dL_history_26 : decode cL_history 26 = .ok (.iload 5, 2) := allD_get dtL_history_k0 13 rfl
theorem dL_history_28 : decode cL_history 28 = .ok (.iconst 1, 1) := allD_get dtL_history_k0 14 rfl
theorem dL_history_29 : decode cL_history 29 = .ok (.isub, 1) := allD_get dtL_history_k0 15 rfl
theorem dL_history_30 : decode cL_history 30 = .ok (.if_icmp .ne 22, 3) := allD_get dtL_history_k0 16 rfl
theorem dL_history_33 : decode cL_history 33 = .ok (.aload_n 0, 1) := allD_get dtL_history_k0 17 rfl
theorem dL_history_34 : decode cL_history 34 = .ok (.invokestatic 59, 3) := allD_get dtL_history_k0 18 rfl
theorem dL_history_37 : decode cL_history 37 = .ok (.lload_n 1, 1) := allD_get dtL_history_k0 19 rfl
theorem dL_history_38 : decode cL_history 38 = .ok (.lcmp, 1) := allD_get dtL_history_k0 20 rfl
theorem dL_history_39 : decode cL_history 39 = .ok (.ifCond .ne 13, 3) := allD_get dtL_history_k0 21 rfl
theorem dL_history_42 : decode cL_history 42 = .ok (.aload_n 0, 1) := allD_get dtL_history_k0 22 rfl
theorem dL_history_43 : decode cL_history 43 = .ok (.bipush 9, 2) := allD_get dtL_history_k0 23 rfl
theorem dL_history_45 : decode cL_history 45 = .ok (.invokevirtual 9, 3) := allD_get dtL_history_k0 24 rfl
theorem dL_history_48 : decode cL_history 48 = .ok (.iconst 1, 1) := allD_get dtL_history_k0 25 rfl
theorem dL_history_49 : decode cL_history 49 = .ok (.if_icmp .eq 5, 3) := allD_get dtL_history_k0 26 rfl
theorem dL_history_52 : decode cL_history 52 = .ok (.iconst 0, 1) := allD_get dtL_history_k0 27 rfl
theorem dL_history_53 : decode cL_history 53 = .ok (.ireturn, 1) := allD_get dtL_history_k0 28 rfl
theorem dL_history_54 : decode cL_history 54 = .ok (.aload_n 0, 1) := allD_get dtL_history_k0 29 rfl
theorem dL_history_55 : decode cL_history 55 = .ok (.invokevirtual 79, 3) := allD_get dtL_history_k0 30 rfl
theorem dL_history_58 : decode cL_history 58 = .ok (.ifCond .ne 36, 3) := allD_get dtL_history_k0 31 rfl
theorem dL_history_61 : decode cL_history 61 = .ok (.aload_n 0, 1) := allD_get dtL_history_k0 32 rfl
theorem dL_history_62 : decode cL_history 62 = .ok (.invokestatic 59, 3) := allD_get dtL_history_k0 33 rfl
theorem dL_history_65 : decode cL_history 65 = .ok (.lload_n 3, 1) := allD_get dtL_history_k0 34 rfl
theorem dL_history_66 : decode cL_history 66 = .ok (.lcmp, 1) := allD_get dtL_history_k0 35 rfl
theorem dL_history_67 : decode cL_history 67 = .ok (.ifCond .ne 27, 3) := allD_get dtL_history_k0 36 rfl
theorem dL_history_70 : decode cL_history 70 = .ok (.aload_n 0, 1) := allD_get dtL_history_k0 37 rfl
theorem dL_history_71 : decode cL_history 71 = .ok (.bipush 8, 2) := allD_get dtL_history_k0 38 rfl
theorem dL_history_73 : decode cL_history 73 = .ok (.invokevirtual 9, 3) := allD_get dtL_history_k0 39 rfl
theorem dL_history_76 : decode cL_history 76 = .ok (.iload 5, 2) := allD_get dtL_history_k0 40 rfl
theorem dL_history_78 : decode cL_history 78 = .ok (.if_icmp .ne 16, 3) := allD_get dtL_history_k0 41 rfl
theorem dL_history_81 : decode cL_history 81 = .ok (.aload_n 0, 1) := allD_get dtL_history_k0 42 rfl
theorem dL_history_82 : decode cL_history 82 = .ok (.invokevirtual 79, 3) := allD_get dtL_history_k0 43 rfl
theorem dL_history_85 : decode cL_history 85 = .ok (.bipush (-5), 2) := allD_get dtL_history_k0 44 rfl
theorem dL_history_87 : decode cL_history 87 = .ok (.if_icmp .ne 7, 3) := allD_get dtL_history_k0 45 rfl
theorem dL_history_90 : decode cL_history 90 = .ok (.iconst 1, 1) := allD_get dtL_history_k0 46 rfl
theorem dL_history_91 : decode cL_history 91 = .ok (.goto 4, 3) := allD_get dtL_history_k0 47 rfl
theorem dL_history_94 : decode cL_history 94 = .ok (.iconst 0, 1) := allD_get dtL_history_k0 48 rfl
theorem dL_history_95 : decode cL_history 95 = .ok (.ireturn, 1) := allD_get dtL_history_k0 49 rfl
def tbL_texts_k0 : List (Nat × Instr × Nat) := [(0, .aload_n 0, 1), (1, .invokevirtual 82, 3), (4, .pop, 1), (5, .iconst 1, 1), (6, .iload_n 1, 1), (7, .iconst 5, 1), (8, .invokestatic 35, 3), (11, .iadd, 1), (12, .istore_n 2, 1), (13, .iconst 0, 1), (14, .istore_n 3, 1), (15, .iconst 0, 1), (16, .istore 4, 2), (18, .iload 4, 2), (20, .iload_n 2, 1), (21, .if_icmp .ge 70, 3), (24, .iload 4, 2), (26, .ifCond .le 23, 3), (29, .aload_n 0, 1), (30, .bipush 32, 2), (32, .invokevirtual 85, 3), (35, .istore_n 3, 1), (36, .aload_n 0, 1), (37, .invokevirtual 89, 3), (40, .bipush (-100), 2), (42, .iload_n 3, 1), (43, .isub, 1), (44, .if_icmp .eq 5, 3), (47, .iconst 0, 1), (48, .ireturn, 1), (49, .aload_n 0, 1), (50, .bipush 49, 2), (52, .iload 4, 2), (54, .iadd, 1), (55, .i2c, 1), (56, .invokevirtual 85, 3), (59, .pop, 1), (60, .aload_n 0, 1), (61, .bipush 44, 2), (63, .invokevirtual 85, 3), (66, .pop, 1), (67, .aload_n 0, 1), (68, .bipush 48, 2), (70, .iload_n 1, 1), (71, .iload 4, 2), (73, .ishr, 1), (74, .bipush 10, 2), (76, .invokestatic 35, 3), (79, .iadd, 1), (80, .i2c, 1), (81, .invokevirtual 85, 3), (84, .istore_n 3, 1), (85, .iinc 4 1, 3), (88, .goto (-70), 3), (91, .aload_n 0, 1), (92, .invokevirtual 89, 3), (95, .iload_n 2, 1), (96, .if_icmp .ne 13, 3), (99, .aload_n 0, 1), (100, .bipush 7, 2)]
set_option maxRecDepth 100000 in
theorem dtL_texts_k0 : allD cL_texts tbL_texts_k0 = true := by decide +kernel
theorem dL_texts_0 : decode cL_texts 0 = .ok (.aload_n 0, 1) := allD_get dtL_texts_k0 0 rfl
theorem dL_texts_1 : decode cL_texts 1 = .ok (.invokevirtual 82, 3) := allD_get dtL_texts_k0 1 rfl
theorem dL_texts_4 : decode cL_texts 4 = .ok (.pop, 1) := allD_get dtL_texts_k0 2 rfl
theorem dL_texts_5 : decode cL_texts 5 = .ok (.iconst 1, 1) := allD_get dtL_texts_k0 3 rfl
theorem dL_texts_6 : decode cL_texts 6 = .ok (.iload_n 1, 1) := allD_get dtL_texts_k0 4 rfl
theorem dL_texts_7 : decode cL_texts 7 = .ok (.iconst 5, 1) := allD_get dtL_texts_k0 5 rfl
theorem dL_texts_8 : decode cL_texts 8 = .ok (.invokestatic 35, 3) := allD_get dtL_texts_k0 6 rfl
theorem dL_texts_11 : decode cL_texts 11 = .ok (.iadd, 1) := allD_get dtL_texts_k0 7 rfl
theorem dL_texts_12 : decode cL_texts 12 = .ok (.istore_n 2, 1) := allD_get dtL_texts_k0 8 rfl
theorem dL_texts_13 : decode cL_texts 13 = .ok (.iconst 0, 1) := allD_get dtL_texts_k0 9 rfl
theorem dL_texts_14 : decode cL_texts 14 = .ok (.istore_n 3, 1) := allD_get dtL_texts_k0 10 rfl
theorem dL_texts_15 : decode cL_texts 15 = .ok (.iconst 0, 1) := allD_get dtL_texts_k0 11 rfl
theorem dL_texts_16 : decode cL_texts 16 = .ok (.istore 4, 2) := allD_get dtL_texts_k0 12 rfl
theorem dL_texts_18 : decode cL_texts 18 = .ok (.iload 4, 2) := allD_get dtL_texts_k0 13 rfl
theorem dL_texts_20 : decode cL_texts 20 = .ok (.iload_n 2, 1) := allD_get dtL_texts_k0 14 rfl
theorem dL_texts_21 : decode cL_texts 21 = .ok (.if_icmp .ge 70, 3) := allD_get dtL_texts_k0 15 rfl
theorem dL_texts_24 : decode cL_texts 24 = .ok (.iload 4, 2) := allD_get dtL_texts_k0 16 rfl
theorem dL_texts_26 : decode cL_texts 26 = .ok (.ifCond .le 23, 3) := allD_get dtL_texts_k0 17 rfl
theorem dL_texts_29 : decode cL_texts 29 = .ok (.aload_n 0, 1) := allD_get dtL_texts_k0 18 rfl
theorem dL_texts_30 : decode cL_texts 30 = .ok (.bipush 32, 2) := allD_get dtL_texts_k0 19 rfl
theorem dL_texts_32 : decode cL_texts 32 = .ok (.invokevirtual 85, 3) := allD_get dtL_texts_k0 20 rfl
theorem dL_texts_35 : decode cL_texts 35 = .ok (.istore_n 3, 1) := allD_get dtL_texts_k0 21 rfl
theorem dL_texts_36 : decode cL_texts 36 = .ok (.aload_n 0, 1) := allD_get dtL_texts_k0 22 rfl
theorem dL_texts_37 : decode cL_texts 37 = .ok (.invokevirtual 89, 3) := allD_get dtL_texts_k0 23 rfl
theorem dL_texts_40 : decode cL_texts 40 = .ok (.bipush (-100), 2) := allD_get dtL_texts_k0 24 rfl
theorem dL_texts_42 : decode cL_texts 42 = .ok (.iload_n 3, 1) := allD_get dtL_texts_k0 25 rfl
theorem dL_texts_43 : decode cL_texts 43 = .ok (.isub, 1) := allD_get dtL_texts_k0 26 rfl
theorem dL_texts_44 : decode cL_texts 44 = .ok (.if_icmp .eq 5, 3) := allD_get dtL_texts_k0 27 rfl
theorem dL_texts_47 : decode cL_texts 47 = .ok (.iconst 0, 1) := allD_get dtL_texts_k0 28 rfl
theorem dL_texts_48 : decode cL_texts 48 = .ok (.ireturn, 1) := allD_get dtL_texts_k0 29 rfl
theorem dL_texts_49 : decode cL_texts 49 = .ok (.aload_n 0, 1) := allD_get dtL_texts_k0 30 rfl
theorem dL_texts_50 : decode cL_texts 50 = .ok (.bipush 49, 2) := allD_get dtL_texts_k0 31 rfl
theorem dL_texts_52 : decode cL_texts 52 = .ok (.iload 4, 2) := allD_get dtL_texts_k0 32 rfl
theorem dL_texts_54 : decode cL_texts 54 = .ok (.iadd, 1) := allD_get dtL_texts_k0 33 rfl
theorem dL_texts_55 : decode cL_texts 55 = .ok (.i2c, 1) := allD_get dtL_texts_k0 34 rfl
theorem dL_texts_56 : decode cL_texts 56 = .ok (.invokevirtual 85, 3) := allD_get dtL_texts_k0 35 rfl
theorem dL_texts_59 : decode cL_texts 59 = .ok (.pop, 1) := allD_get dtL_texts_k0 36 rfl
theorem dL_texts_60 : decode cL_texts 60 = .ok (.aload_n 0, 1) := allD_get dtL_texts_k0 37 rfl
theorem dL_texts_61 : decode cL_texts 61 = .ok (.bipush 44, 2) := allD_get dtL_texts_k0 38 rfl
theorem dL_texts_63 : decode cL_texts 63 = .ok (.invokevirtual 85, 3) := allD_get dtL_texts_k0 39 rfl
theorem dL_texts_66 : decode cL_texts 66 = .ok (.pop, 1) := allD_get dtL_texts_k0 40 rfl
theorem dL_texts_67 : decode cL_texts 67 = .ok (.aload_n 0, 1) := allD_get dtL_texts_k0 41 rfl
theorem dL_texts_68 : decode cL_texts 68 = .ok (.bipush 48, 2) := allD_get dtL_texts_k0 42 rfl
theorem dL_texts_70 : decode cL_texts 70 = .ok (.iload_n 1, 1) := allD_get dtL_texts_k0 43 rfl
theorem dL_texts_71 : decode cL_texts 71 = .ok (.iload 4, 2) := allD_get dtL_texts_k0 44 rfl
theorem dL_texts_73 : decode cL_texts 73 = .ok (.ishr, 1) := allD_get dtL_texts_k0 45 rfl
theorem dL_texts_74 : decode cL_texts 74 = .ok (.bipush 10, 2) := allD_get dtL_texts_k0 46 rfl
theorem dL_texts_76 : decode cL_texts 76 = .ok (.invokestatic 35, 3) := allD_get dtL_texts_k0 47 rfl
theorem dL_texts_79 : decode cL_texts 79 = .ok (.iadd, 1) := allD_get dtL_texts_k0 48 rfl
theorem dL_texts_80 : decode cL_texts 80 = .ok (.i2c, 1) := allD_get dtL_texts_k0 49 rfl
theorem dL_texts_81 : decode cL_texts 81 = .ok (.invokevirtual 85, 3) := allD_get dtL_texts_k0 50 rfl
theorem dL_texts_84 : decode cL_texts 84 = .ok (.istore_n 3, 1) := allD_get dtL_texts_k0 51 rfl
theorem dL_texts_85 : decode cL_texts 85 = .ok (.iinc 4 1, 3) := allD_get dtL_texts_k0 52 rfl
theorem dL_texts_88 : decode cL_texts 88 = .ok (.goto (-70), 3) := allD_get dtL_texts_k0 53 rfl
theorem dL_texts_91 : decode cL_texts 91 = .ok (.aload_n 0, 1) := allD_get dtL_texts_k0 54 rfl
theorem dL_texts_92 : decode cL_texts 92 = .ok (.invokevirtual 89, 3) := allD_get dtL_texts_k0 55 rfl
theorem dL_texts_95 : decode cL_texts 95 = .ok (.iload_n 2, 1) := allD_get dtL_texts_k0 56 rfl
theorem dL_texts_96 : decode cL_texts 96 = .ok (.if_icmp .ne 13, 3) := allD_get dtL_texts_k0 57 rfl
theorem dL_texts_99 : decode cL_texts 99 = .ok (.aload_n 0, 1) := allD_get dtL_texts_k0 58 rfl
theorem dL_texts_100 : decode cL_texts 100 = .ok (.bipush 7, 2) := allD_get dtL_texts_k0 59 rfl
def tbL_texts_k1 : List (Nat × Instr × Nat) := [(102, .invokevirtual 9, 3), (105, .iload_n 2, 1), (106, .if_icmp .eq 5, 3), (109, .iconst 0, 1), (110, .ireturn, 1), (111, .aload_n 0, 1), (112, .bipush 44, 2), (114, .invokevirtual 85, 3), (117, .pop, 1), (118, .aload_n 0, 1), (119, .invokevirtual 89, 3), (122, .bipush (-100), 2), (124, .iload_n 3, 1), (125, .isub, 1), (126, .if_icmp .ne 7, 3), (129, .iconst 1, 1), (130, .goto 4, 3), (133, .iconst 0, 1), (134, .istore 4, 2), (136, .aload_n 0, 1), (137, .invokevirtual 82, 3), (140, .pop, 1), (141, .aload_n 0, 1), (142, .bipush 49, 2), (144, .invokevirtual 85, 3), (147, .pop, 1), (148, .aload_n 0, 1), (149, .bipush 48, 2), (151, .invokevirtual 85, 3), (154, .pop, 1), (155, .aload_n 0, 1), (156, .bipush 48, 2), (158, .invokevirtual 85, 3), (161, .pop, 1), (162, .aload_n 0, 1), (163, .bipush 49, 2), (165, .invokevirtual 85, 3), (168, .pop, 1), (169, .aload_n 0, 1), (170, .invokevirtual 89, 3), (173, .bipush (-100), 2), (175, .if_icmp .ne 7, 3), (178, .iconst 1, 1), (179, .goto 4, 3), (182, .iconst 0, 1), (183, .istore 5, 2), (185, .aload_n 0, 1), (186, .bipush 48, 2), (188, .invokevirtual 85, 3), (191, .pop, 1), (192, .iload 4, 2), (194, .ifCond .eq 36, 3), (197, .iload 5, 2), (199, .ifCond .eq 31, 3), (202, .aload_n 0, 1), (203, .invokevirtual 89, 3), (206, .bipush (-104), 2), (208, .if_icmp .ne 22, 3), (211, .aload_n 0, 1), (212, .invokevirtual 92, 3)]
set_option maxRecDepth 100000 in
theorem dtL_texts_k1 : allD cL_texts tbL_texts_k1 = true := by decide +kernel
theorem dL_texts_102 : decode cL_texts 102 = .ok (.invokevirtual 9, 3) := allD_get dtL_texts_k1 0 rfl
theorem dL_texts_105 : decode cL_texts 105 = .ok (.iload_n 2, 1) := allD_get dtL_texts_k1 1 rfl
theorem dL_texts_106 : decode cL_texts 106 = .ok (.if_icmp .eq 5, 3) := allD_get dtL_texts_k1 2 rfl
theorem dL_texts_109 : decode cL_texts 109 = .ok (.iconst 0, 1) := allD_get dtL_texts_k1 3 rfl
theorem dL_texts_110 : decode cL_texts 110 = .ok (.ireturn, 1) := allD_get dtL_texts_k1 4 rfl
theorem dL_texts_111 : decode cL_texts 111 = .ok (.aload_n 0, 1) := allD_get dtL_texts_k1 5 rfl
theorem dL_texts_112 : decode cL_texts 112 = .ok (.bipush 44, 2) := allD_get dtL_texts_k1 6 rfl
theorem dL_texts_114 : decode cL_texts 114 = .ok (.invokevirtual 85, 3) := allD_get dtL_texts_k1 7 rfl
theorem dL_texts_117 : decode cL_texts 117 = .ok (.pop, 1) := allD_get dtL_texts_k1 8 rfl
theorem dL_texts_118 : decode cL_texts 118 = .ok (.aload_n 0, 1) := allD_get dtL_texts_k1 9 rfl
theorem dL_texts_119 : decode cL_texts 119 = .ok (.invokevirtual 89, 3) := allD_get dtL_texts_k1 10 rfl
theorem dL_texts_122 : decode cL_texts 122 = .ok (.bipush (-100), 2) := allD_get dtL_texts_k1 11 rfl
theorem dL_texts_124 : decode cL_texts 124 = .ok (.iload_n 3, 1) := allD_get dtL_texts_k1 12 rfl
theorem dL_texts_125 : decode cL_texts 125 = .ok (.isub, 1) := allD_get dtL_texts_k1 13 rfl
theorem dL_texts_126 : decode cL_texts 126 = .ok (.if_icmp .ne 7, 3) := allD_get dtL_texts_k1 14 rfl
theorem dL_texts_129 : decode cL_texts 129 = .ok (.iconst 1, 1) := allD_get dtL_texts_k1 15 rfl
theorem dL_texts_130 : decode cL_texts 130 = .ok (.goto 4, 3) := allD_get dtL_texts_k1 16 rfl
theorem dL_texts_133 : decode cL_texts 133 = .ok (.iconst 0, 1) := allD_get dtL_texts_k1 17 rfl
theorem dL_texts_134 : decode cL_texts 134 = .ok (.istore 4, 2) := allD_get dtL_texts_k1 18 rfl
theorem dL_texts_136 : decode cL_texts 136 = .ok (.aload_n 0, 1) := allD_get dtL_texts_k1 19 rfl
theorem dL_texts_137 : decode cL_texts 137 = .ok (.invokevirtual 82, 3) := allD_get dtL_texts_k1 20 rfl
theorem dL_texts_140 : decode cL_texts 140 = .ok (.pop, 1) := allD_get dtL_texts_k1 21 rfl
theorem dL_texts_141 : decode cL_texts 141 = .ok (.aload_n 0, 1) := allD_get dtL_texts_k1 22 rfl
theorem dL_texts_142 : decode cL_texts 142 = .ok (.bipush 49, 2) := allD_get dtL_texts_k1 23 rfl
theorem dL_texts_144 : decode cL_texts 144 = .ok (.invokevirtual 85, 3) := allD_get dtL_texts_k1 24 rfl
theorem dL_texts_147 : decode cL_texts 147 = .ok (.pop, 1) := allD_get dtL_texts_k1 25 rfl
theorem dL_texts_148 : decode cL_texts 148 = .ok (.aload_n 0, 1) := allD_get dtL_texts_k1 26 rfl
theorem dL_texts_149 : decode cL_texts 149 = .ok (.bipush 48, 2) := allD_get dtL_texts_k1 27 rfl
theorem dL_texts_151 : decode cL_texts 151 = .ok (.invokevirtual 85, 3) := allD_get dtL_texts_k1 28 rfl
theorem dL_texts_154 : decode cL_texts 154 = .ok (.pop, 1) := allD_get dtL_texts_k1 29 rfl
theorem dL_texts_155 : decode cL_texts 155 = .ok (.aload_n 0, 1) := allD_get dtL_texts_k1 30 rfl
theorem dL_texts_156 : decode cL_texts 156 = .ok (.bipush 48, 2) := allD_get dtL_texts_k1 31 rfl
theorem dL_texts_158 : decode cL_texts 158 = .ok (.invokevirtual 85, 3) := allD_get dtL_texts_k1 32 rfl
theorem dL_texts_161 : decode cL_texts 161 = .ok (.pop, 1) := allD_get dtL_texts_k1 33 rfl
theorem dL_texts_162 : decode cL_texts 162 = .ok (.aload_n 0, 1) := allD_get dtL_texts_k1 34 rfl
theorem dL_texts_163 : decode cL_texts 163 = .ok (.bipush 49, 2) := allD_get dtL_texts_k1 35 rfl
theorem dL_texts_165 : decode cL_texts 165 = .ok (.invokevirtual 85, 3) := allD_get dtL_texts_k1 36 rfl
theorem dL_texts_168 : decode cL_texts 168 = .ok (.pop, 1) := allD_get dtL_texts_k1 37 rfl
theorem dL_texts_169 : decode cL_texts 169 = .ok (.aload_n 0, 1) := allD_get dtL_texts_k1 38 rfl
theorem dL_texts_170 : decode cL_texts 170 = .ok (.invokevirtual 89, 3) := allD_get dtL_texts_k1 39 rfl
theorem dL_texts_173 : decode cL_texts 173 = .ok (.bipush (-100), 2) := allD_get dtL_texts_k1 40 rfl
theorem dL_texts_175 : decode cL_texts 175 = .ok (.if_icmp .ne 7, 3) := allD_get dtL_texts_k1 41 rfl
theorem dL_texts_178 : decode cL_texts 178 = .ok (.iconst 1, 1) := allD_get dtL_texts_k1 42 rfl
theorem dL_texts_179 : decode cL_texts 179 = .ok (.goto 4, 3) := allD_get dtL_texts_k1 43 rfl
theorem dL_texts_182 : decode cL_texts 182 = .ok (.iconst 0, 1) := allD_get dtL_texts_k1 44 rfl
theorem dL_texts_183 : decode cL_texts 183 = .ok (.istore 5, 2) := allD_get dtL_texts_k1 45 rfl
theorem dL_texts_185 : decode cL_texts 185 = .ok (.aload_n 0, 1) := allD_get dtL_texts_k1 46 rfl
theorem dL_texts_186 : decode cL_texts 186 = .ok (.bipush 48, 2) := allD_get dtL_texts_k1 47 rfl
theorem dL_texts_188 : decode cL_texts 188 = .ok (.invokevirtual 85, 3) := allD_get dtL_texts_k1 48 rfl
theorem dL_texts_191 : decode cL_texts 191 = .ok (.pop, 1) := allD_get dtL_texts_k1 49 rfl
theorem dL_texts_192 : decode cL_texts 192 = .ok (.iload 4, 2) := allD_get dtL_texts_k1 50 rfl
theorem dL_texts_194 : decode cL_texts 194 = .ok (.ifCond .eq 36, 3) := allD_get dtL_texts_k1 51 rfl
theorem dL_texts_197 : decode cL_texts 197 = .ok (.iload 5, 2) := allD_get dtL_texts_k1 52 rfl
theorem dL_texts_199 : decode cL_texts 199 = .ok (.ifCond .eq 31, 3) := allD_get dtL_texts_k1 53 rfl
theorem dL_texts_202 : decode cL_texts 202 = .ok (.aload_n 0, 1) := allD_get dtL_texts_k1 54 rfl
theorem dL_texts_203 : decode cL_texts 203 = .ok (.invokevirtual 89, 3) := allD_get dtL_texts_k1 55 rfl
theorem dL_texts_206 : decode cL_texts 206 = .ok (.bipush (-104), 2) := allD_get dtL_texts_k1 56 rfl
theorem dL_texts_208 : decode cL_texts 208 = .ok (.if_icmp .ne 22, 3) := allD_get dtL_texts_k1 57 rfl
theorem dL_texts_211 : decode cL_texts 211 = .ok (.aload_n 0, 1) := allD_get dtL_texts_k1 58 rfl
theorem dL_texts_212 : decode cL_texts 212 = .ok (.invokevirtual 92, 3) := allD_get dtL_texts_k1 59 rfl
def tbL_texts_k2 : List (Nat × Instr × Nat) := [(215, .iload_n 2, 1), (216, .if_icmp .ne 14, 3), (219, .aload_n 0, 1), (220, .invokevirtual 92, 3), (223, .ifCond .ne 7, 3), (226, .iconst 1, 1), (227, .goto 4, 3), (230, .iconst 0, 1), (231, .ireturn, 1)]
set_option maxRecDepth 100000 in
theorem dtL_texts_k2 : allD cL_texts tbL_texts_k2 = true := by decide +kernel
theorem dL_texts_215 : decode cL_texts 215 = .ok (.iload_n 2, 1) := allD_get dtL_texts_k2 0 rfl
theorem dL_texts_216 : decode cL_texts 216 = .ok (.if_icmp .ne 14, 3) := allD_get dtL_texts_k2 1 rfl
theorem dL_texts_219 : decode cL_texts 219 = .ok (.aload_n 0, 1) := allD_get dtL_texts_k2 2 rfl
theorem dL_texts_220 : decode cL_texts 220 = .ok (.invokevirtual 92, 3) := allD_get dtL_texts_k2 3 rfl
theorem dL_texts_223 : decode cL_texts 223 = .ok (.ifCond .ne 7, 3) := allD_get dtL_texts_k2 4 rfl
theorem dL_texts_226 : decode cL_texts 226 = .ok (.iconst 1, 1) := allD_get dtL_texts_k2 5 rfl
theorem dL_texts_227 : decode cL_texts 227 = .ok (.goto 4, 3) := allD_get dtL_texts_k2 6 rfl
theorem dL_texts_230 : decode cL_texts 230 = .ok (.iconst 0, 1) := allD_get dtL_texts_k2 7 rfl
theorem dL_texts_231 : decode cL_texts 231 = .ok (.ireturn, 1) := allD_get dtL_texts_k2 8 rfl
def tbL_errors_k0 : List (Nat × Instr × Nat) := [(0, .aload_n 0, 1), (1, .iconst 0, 1), (2, .invokevirtual 9, 3), (5, .istore_n 1, 1), (6, .aload_n 0, 1), (7, .sipush 1001, 3), (10, .iconst 0, 1), (11, .invokevirtual 95, 3), (14, .bipush (-2), 2), (16, .if_icmp .ne 113, 3), (19, .aload_n 0, 1), (20, .iconst 4, 1), (21, .invokevirtual 98, 3), (24, .bipush (-2), 2), (26, .if_icmp .ne 103, 3), (29, .aload_n 0, 1), (30, .iconst 0, 1), (31, .invokevirtual 98, 3), (34, .bipush (-4), 2), (36, .if_icmp .ne 93, 3), (39, .aload_n 0, 1), (40, .iconst (-1), 1), (41, .iconst 0, 1), (42, .iconst 0, 1), (43, .invokevirtual 63, 3), (46, .bipush (-2), 2), (48, .if_icmp .ne 81, 3), (51, .aload_n 0, 1), (52, .iconst 0, 1), (53, .iconst 0, 1), (54, .sipush 501, 3), (57, .invokevirtual 63, 3), (60, .bipush (-2), 2), (62, .if_icmp .ne 67, 3), (65, .aload_n 0, 1), (66, .iload_n 1, 1), (67, .iconst 1, 1), (68, .invokevirtual 66, 3), (71, .iconst (-1), 1), (72, .if_icmp .ne 57, 3), (75, .aload_n 0, 1), (76, .iload_n 1, 1), (77, .iconst 1, 1), (78, .invokevirtual 69, 3), (81, .iconst (-1), 1), (82, .if_icmp .ne 47, 3), (85, .aload_n 0, 1), (86, .iload_n 1, 1), (87, .iload_n 1, 1), (88, .invokevirtual 72, 3), (91, .iconst (-1), 1), (92, .if_icmp .ne 37, 3), (95, .aload_n 0, 1), (96, .iload_n 1, 1), (97, .iconst 0, 1), (98, .iconst 0, 1), (99, .invokevirtual 101, 3), (102, .iconst (-1), 1), (103, .if_icmp .ne 26, 3), (106, .aload_n 0, 1)]
set_option maxRecDepth 100000 in
theorem dtL_errors_k0 : allD cL_errors tbL_errors_k0 = true := by decide +kernel
theorem dL_errors_0 : decode cL_errors 0 = .ok (.aload_n 0, 1) := allD_get dtL_errors_k0 0 rfl
theorem dL_errors_1 : decode cL_errors 1 = .ok (.iconst 0, 1) := allD_get dtL_errors_k0 1 rfl
theorem dL_errors_2 : decode cL_errors 2 = .ok (.invokevirtual 9, 3) := allD_get dtL_errors_k0 2 rfl
theorem dL_errors_5 : decode cL_errors 5 = .ok (.istore_n 1, 1) := allD_get dtL_errors_k0 3 rfl
theorem dL_errors_6 : decode cL_errors 6 = .ok (.aload_n 0, 1) := allD_get dtL_errors_k0 4 rfl
theorem dL_errors_7 : decode cL_errors 7 = .ok (.sipush 1001, 3) := allD_get dtL_errors_k0 5 rfl
theorem dL_errors_10 : decode cL_errors 10 = .ok (.iconst 0, 1) := allD_get dtL_errors_k0 6 rfl
theorem dL_errors_11 : decode cL_errors 11 = .ok (.invokevirtual 95, 3) := allD_get dtL_errors_k0 7 rfl
theorem dL_errors_14 : decode cL_errors 14 = .ok (.bipush (-2), 2) := allD_get dtL_errors_k0 8 rfl
theorem dL_errors_16 : decode cL_errors 16 = .ok (.if_icmp .ne 113, 3) := allD_get dtL_errors_k0 9 rfl
theorem dL_errors_19 : decode cL_errors 19 = .ok (.aload_n 0, 1) := allD_get dtL_errors_k0 10 rfl
theorem dL_errors_20 : decode cL_errors 20 = .ok (.iconst 4, 1) := allD_get dtL_errors_k0 11 rfl
theorem dL_errors_21 : decode cL_errors 21 = .ok (.invokevirtual 98, 3) := allD_get dtL_errors_k0 12 rfl
theorem dL_errors_24 : decode cL_errors 24 = .ok (.bipush (-2), 2) := allD_get dtL_errors_k0 13 rfl
theorem dL_errors_26 : decode cL_errors 26 = .ok (.if_icmp .ne 103, 3) := allD_get dtL_errors_k0 14 rfl
theorem dL_errors_29 : decode cL_errors 29 = .ok (.aload_n 0, 1) := allD_get dtL_errors_k0 15 rfl
theorem dL_errors_30 : decode cL_errors 30 = .ok (.iconst 0, 1) := allD_get dtL_errors_k0 16 rfl
theorem dL_errors_31 : decode cL_errors 31 = .ok (.invokevirtual 98, 3) := allD_get dtL_errors_k0 17 rfl
theorem dL_errors_34 : decode cL_errors 34 = .ok (.bipush (-4), 2) := allD_get dtL_errors_k0 18 rfl
theorem dL_errors_36 : decode cL_errors 36 = .ok (.if_icmp .ne 93, 3) := allD_get dtL_errors_k0 19 rfl
theorem dL_errors_39 : decode cL_errors 39 = .ok (.aload_n 0, 1) := allD_get dtL_errors_k0 20 rfl
theorem dL_errors_40 : decode cL_errors 40 = .ok (.iconst (-1), 1) := allD_get dtL_errors_k0 21 rfl
theorem dL_errors_41 : decode cL_errors 41 = .ok (.iconst 0, 1) := allD_get dtL_errors_k0 22 rfl
theorem dL_errors_42 : decode cL_errors 42 = .ok (.iconst 0, 1) := allD_get dtL_errors_k0 23 rfl
theorem dL_errors_43 : decode cL_errors 43 = .ok (.invokevirtual 63, 3) := allD_get dtL_errors_k0 24 rfl
theorem dL_errors_46 : decode cL_errors 46 = .ok (.bipush (-2), 2) := allD_get dtL_errors_k0 25 rfl
theorem dL_errors_48 : decode cL_errors 48 = .ok (.if_icmp .ne 81, 3) := allD_get dtL_errors_k0 26 rfl
theorem dL_errors_51 : decode cL_errors 51 = .ok (.aload_n 0, 1) := allD_get dtL_errors_k0 27 rfl
theorem dL_errors_52 : decode cL_errors 52 = .ok (.iconst 0, 1) := allD_get dtL_errors_k0 28 rfl
theorem dL_errors_53 : decode cL_errors 53 = .ok (.iconst 0, 1) := allD_get dtL_errors_k0 29 rfl
theorem dL_errors_54 : decode cL_errors 54 = .ok (.sipush 501, 3) := allD_get dtL_errors_k0 30 rfl
theorem dL_errors_57 : decode cL_errors 57 = .ok (.invokevirtual 63, 3) := allD_get dtL_errors_k0 31 rfl
theorem dL_errors_60 : decode cL_errors 60 = .ok (.bipush (-2), 2) := allD_get dtL_errors_k0 32 rfl
theorem dL_errors_62 : decode cL_errors 62 = .ok (.if_icmp .ne 67, 3) := allD_get dtL_errors_k0 33 rfl
theorem dL_errors_65 : decode cL_errors 65 = .ok (.aload_n 0, 1) := allD_get dtL_errors_k0 34 rfl
theorem dL_errors_66 : decode cL_errors 66 = .ok (.iload_n 1, 1) := allD_get dtL_errors_k0 35 rfl
theorem dL_errors_67 : decode cL_errors 67 = .ok (.iconst 1, 1) := allD_get dtL_errors_k0 36 rfl
theorem dL_errors_68 : decode cL_errors 68 = .ok (.invokevirtual 66, 3) := allD_get dtL_errors_k0 37 rfl
theorem dL_errors_71 : decode cL_errors 71 = .ok (.iconst (-1), 1) := allD_get dtL_errors_k0 38 rfl
theorem dL_errors_72 : decode cL_errors 72 = .ok (.if_icmp .ne 57, 3) := allD_get dtL_errors_k0 39 rfl
theorem dL_errors_75 : decode cL_errors 75 = .ok (.aload_n 0, 1) := allD_get dtL_errors_k0 40 rfl
theorem dL_errors_76 : decode cL_errors 76 = .ok (.iload_n 1, 1) := allD_get dtL_errors_k0 41 rfl
theorem dL_errors_77 : decode cL_errors 77 = .ok (.iconst 1, 1) := allD_get dtL_errors_k0 42 rfl
theorem dL_errors_78 : decode cL_errors 78 = .ok (.invokevirtual 69, 3) := allD_get dtL_errors_k0 43 rfl
theorem dL_errors_81 : decode cL_errors 81 = .ok (.iconst (-1), 1) := allD_get dtL_errors_k0 44 rfl
theorem dL_errors_82 : decode cL_errors 82 = .ok (.if_icmp .ne 47, 3) := allD_get dtL_errors_k0 45 rfl
theorem dL_errors_85 : decode cL_errors 85 = .ok (.aload_n 0, 1) := allD_get dtL_errors_k0 46 rfl
theorem dL_errors_86 : decode cL_errors 86 = .ok (.iload_n 1, 1) := allD_get dtL_errors_k0 47 rfl
theorem dL_errors_87 : decode cL_errors 87 = .ok (.iload_n 1, 1) := allD_get dtL_errors_k0 48 rfl
theorem dL_errors_88 : decode cL_errors 88 = .ok (.invokevirtual 72, 3) := allD_get dtL_errors_k0 49 rfl
theorem dL_errors_91 : decode cL_errors 91 = .ok (.iconst (-1), 1) := allD_get dtL_errors_k0 50 rfl
theorem dL_errors_92 : decode cL_errors 92 = .ok (.if_icmp .ne 37, 3) := allD_get dtL_errors_k0 51 rfl
theorem dL_errors_95 : decode cL_errors 95 = .ok (.aload_n 0, 1) := allD_get dtL_errors_k0 52 rfl
theorem dL_errors_96 : decode cL_errors 96 = .ok (.iload_n 1, 1) := allD_get dtL_errors_k0 53 rfl
theorem dL_errors_97 : decode cL_errors 97 = .ok (.iconst 0, 1) := allD_get dtL_errors_k0 54 rfl
theorem dL_errors_98 : decode cL_errors 98 = .ok (.iconst 0, 1) := allD_get dtL_errors_k0 55 rfl
theorem dL_errors_99 : decode cL_errors 99 = .ok (.invokevirtual 101, 3) := allD_get dtL_errors_k0 56 rfl
theorem dL_errors_102 : decode cL_errors 102 = .ok (.iconst (-1), 1) := allD_get dtL_errors_k0 57 rfl
theorem dL_errors_103 : decode cL_errors 103 = .ok (.if_icmp .ne 26, 3) := allD_get dtL_errors_k0 58 rfl
theorem dL_errors_106 : decode cL_errors 106 = .ok (.aload_n 0, 1) := allD_get dtL_errors_k0 59 rfl
def tbL_errors_k1 : List (Nat × Instr × Nat) := [(107, .iload_n 1, 1), (108, .iconst 0, 1), (109, .invokevirtual 104, 3), (112, .iconst (-1), 1), (113, .if_icmp .ne 16, 3), (116, .aload_n 0, 1), (117, .iload_n 1, 1), (118, .invokevirtual 107, 3), (121, .iconst (-1), 1), (122, .if_icmp .ne 7, 3), (125, .iconst 1, 1), (126, .goto 4, 3), (129, .iconst 0, 1), (130, .istore_n 2, 1), (131, .iload_n 2, 1), (132, .ifCond .eq 29, 3), (135, .aload_n 0, 1), (136, .sipush 501, 3), (139, .invokevirtual 110, 3), (142, .bipush (-2), 2), (144, .if_icmp .ne 17, 3), (147, .aload_n 0, 1), (148, .iconst (-1), 1), (149, .invokevirtual 110, 3), (152, .bipush (-2), 2), (154, .if_icmp .ne 7, 3), (157, .iconst 1, 1), (158, .goto 4, 3), (161, .iconst 0, 1), (162, .ireturn, 1)]
set_option maxRecDepth 100000 in
theorem dtL_errors_k1 : allD cL_errors tbL_errors_k1 = true := by decide +kernel
theorem dL_errors_107 : decode cL_errors 107 = .ok (.iload_n 1, 1) := allD_get dtL_errors_k1 0 rfl
theorem dL_errors_108 : decode cL_errors 108 = .ok (.iconst 0, 1) := allD_get dtL_errors_k1 1 rfl
theorem dL_errors_109 : decode cL_errors 109 = .ok (.invokevirtual 104, 3) := allD_get dtL_errors_k1 2 rfl
theorem dL_errors_112 : decode cL_errors 112 = .ok (.iconst (-1), 1) := allD_get dtL_errors_k1 3 rfl
theorem dL_errors_113 : decode cL_errors 113 = .ok (.if_icmp .ne 16, 3) := allD_get dtL_errors_k1 4 rfl
theorem dL_errors_116 : decode cL_errors 116 = .ok (.aload_n 0, 1) := allD_get dtL_errors_k1 5 rfl
theorem dL_errors_117 : decode cL_errors 117 = .ok (.iload_n 1, 1) := allD_get dtL_errors_k1 6 rfl
theorem dL_errors_118 : decode cL_errors 118 = .ok (.invokevirtual 107, 3) := allD_get dtL_errors_k1 7 rfl
theorem dL_errors_121 : decode cL_errors 121 = .ok (.iconst (-1), 1) := allD_get dtL_errors_k1 8 rfl
theorem dL_errors_122 : decode cL_errors 122 = .ok (.if_icmp .ne 7, 3) := allD_get dtL_errors_k1 9 rfl
theorem dL_errors_125 : decode cL_errors 125 = .ok (.iconst 1, 1) := allD_get dtL_errors_k1 10 rfl
theorem dL_errors_126 : decode cL_errors 126 = .ok (.goto 4, 3) := allD_get dtL_errors_k1 11 rfl
theorem dL_errors_129 : decode cL_errors 129 = .ok (.iconst 0, 1) := allD_get dtL_errors_k1 12 rfl
theorem dL_errors_130 : decode cL_errors 130 = .ok (.istore_n 2, 1) := allD_get dtL_errors_k1 13 rfl
theorem dL_errors_131 : decode cL_errors 131 = .ok (.iload_n 2, 1) := allD_get dtL_errors_k1 14 rfl
theorem dL_errors_132 : decode cL_errors 132 = .ok (.ifCond .eq 29, 3) := allD_get dtL_errors_k1 15 rfl
theorem dL_errors_135 : decode cL_errors 135 = .ok (.aload_n 0, 1) := allD_get dtL_errors_k1 16 rfl
theorem dL_errors_136 : decode cL_errors 136 = .ok (.sipush 501, 3) := allD_get dtL_errors_k1 17 rfl
theorem dL_errors_139 : decode cL_errors 139 = .ok (.invokevirtual 110, 3) := allD_get dtL_errors_k1 18 rfl
theorem dL_errors_142 : decode cL_errors 142 = .ok (.bipush (-2), 2) := allD_get dtL_errors_k1 19 rfl
theorem dL_errors_144 : decode cL_errors 144 = .ok (.if_icmp .ne 17, 3) := allD_get dtL_errors_k1 20 rfl
theorem dL_errors_147 : decode cL_errors 147 = .ok (.aload_n 0, 1) := allD_get dtL_errors_k1 21 rfl
theorem dL_errors_148 : decode cL_errors 148 = .ok (.iconst (-1), 1) := allD_get dtL_errors_k1 22 rfl
theorem dL_errors_149 : decode cL_errors 149 = .ok (.invokevirtual 110, 3) := allD_get dtL_errors_k1 23 rfl
theorem dL_errors_152 : decode cL_errors 152 = .ok (.bipush (-2), 2) := allD_get dtL_errors_k1 24 rfl
theorem dL_errors_154 : decode cL_errors 154 = .ok (.if_icmp .ne 7, 3) := allD_get dtL_errors_k1 25 rfl
theorem dL_errors_157 : decode cL_errors 157 = .ok (.iconst 1, 1) := allD_get dtL_errors_k1 26 rfl
theorem dL_errors_158 : decode cL_errors 158 = .ok (.goto 4, 3) := allD_get dtL_errors_k1 27 rfl
theorem dL_errors_161 : decode cL_errors 161 = .ok (.iconst 0, 1) := allD_get dtL_errors_k1 28 rfl
theorem dL_errors_162 : decode cL_errors 162 = .ok (.ireturn, 1) := allD_get dtL_errors_k1 29 rfl
def tbL_law_k0 : List (Nat × Instr × Nat) := [(0, .new 10, 3), (3, .dup, 1), (4, .invokespecial 113, 3), (7, .astore_n 1, 1), (8, .bipush 20, 2), (10, .istore_n 2, 1), (11, .iconst 0, 1), (12, .istore_n 3, 1), (13, .iload_n 3, 1), (14, .bipush 30, 2), (16, .if_icmp .ge 899, 3), (19, .aload_n 0, 1), (20, .iconst 2, 1), (21, .iload_n 3, 1), (22, .imul, 1), (23, .invokestatic 114, 3), (26, .istore 4, 2), (28, .aload_n 0, 1), (29, .iconst 2, 1), (30, .iload_n 3, 1), (31, .imul, 1), (32, .iconst 1, 1), (33, .iadd, 1), (34, .invokestatic 114, 3), (37, .istore 5, 2), (39, .aload_n 1, 1), (40, .iconst 0, 1), (41, .invokevirtual 9, 3), (44, .istore 6, 2), (46, .iload_n 3, 1), (47, .iconst 2, 1), (48, .if_icmp .ge 7, 3), (51, .iconst 0, 1), (52, .goto 10, 3), (55, .iload 4, 2), (57, .bipush 11, 2), (59, .invokestatic 35, 3), (62, .istore 7, 2), (64, .iload 4, 2), (66, .iconst 4, 1), (67, .ishr, 1), (68, .istore 4, 2), (70, .iload 6, 2), (72, .ifCond .ne 7, 3), (75, .iconst 0, 1), (76, .goto 10, 3), (79, .iload 4, 2), (81, .iload 6, 2), (83, .invokestatic 35, 3), (86, .istore 8, 2), (88, .aload_n 1, 1), (89, .invokestatic 59, 3), (92, .lstore 9, 2), (94, .iload 7, 2), (96, .iconst 4, 1), (97, .if_icmp .ge 204, 3), (100, .iconst 1, 1), (101, .iload 4, 2), (103, .bipush 9, 2), (105, .invokestatic 35, 3)]
set_option maxRecDepth 100000 in
theorem dtL_law_k0 : allD cL_law tbL_law_k0 = true := by decide +kernel
theorem dL_law_0 : decode cL_law 0 = .ok (.new 10, 3) := allD_get dtL_law_k0 0 rfl
theorem dL_law_3 : decode cL_law 3 = .ok (.dup, 1) := allD_get dtL_law_k0 1 rfl
theorem dL_law_4 : decode cL_law 4 = .ok (.invokespecial 113, 3) := allD_get dtL_law_k0 2 rfl
theorem dL_law_7 : decode cL_law 7 = .ok (.astore_n 1, 1) := allD_get dtL_law_k0 3 rfl
theorem dL_law_8 : decode cL_law 8 = .ok (.bipush 20, 2) := allD_get dtL_law_k0 4 rfl
theorem dL_law_10 : decode cL_law 10 = .ok (.istore_n 2, 1) := allD_get dtL_law_k0 5 rfl
theorem dL_law_11 : decode cL_law 11 = .ok (.iconst 0, 1) := allD_get dtL_law_k0 6 rfl
theorem dL_law_12 : decode cL_law 12 = .ok (.istore_n 3, 1) := allD_get dtL_law_k0 7 rfl
theorem dL_law_13 : decode cL_law 13 = .ok (.iload_n 3, 1) := allD_get dtL_law_k0 8 rfl
theorem dL_law_14 : decode cL_law 14 = .ok (.bipush 30, 2) := allD_get dtL_law_k0 9 rfl
theorem dL_law_16 : decode cL_law 16 = .ok (.if_icmp .ge 899, 3) := allD_get dtL_law_k0 10 rfl
theorem dL_law_19 : decode cL_law 19 = .ok (.aload_n 0, 1) := allD_get dtL_law_k0 11 rfl
theorem dL_law_20 : decode cL_law 20 = .ok (.iconst 2, 1) := allD_get dtL_law_k0 12 rfl
theorem dL_law_21 : decode cL_law 21 = .ok (.iload_n 3, 1) := allD_get dtL_law_k0 13 rfl
theorem dL_law_22 : decode cL_law 22 = .ok (.imul, 1) := allD_get dtL_law_k0 14 rfl
theorem dL_law_23 : decode cL_law 23 = .ok (.invokestatic 114, 3) := allD_get dtL_law_k0 15 rfl
theorem dL_law_26 : decode cL_law 26 = .ok (.istore 4, 2) := allD_get dtL_law_k0 16 rfl
theorem dL_law_28 : decode cL_law 28 = .ok (.aload_n 0, 1) := allD_get dtL_law_k0 17 rfl
theorem dL_law_29 : decode cL_law 29 = .ok (.iconst 2, 1) := allD_get dtL_law_k0 18 rfl
theorem dL_law_30 : decode cL_law 30 = .ok (.iload_n 3, 1) := allD_get dtL_law_k0 19 rfl
theorem dL_law_31 : decode cL_law 31 = .ok (.imul, 1) := allD_get dtL_law_k0 20 rfl
theorem dL_law_32 : decode cL_law 32 = .ok (.iconst 1, 1) := allD_get dtL_law_k0 21 rfl
theorem dL_law_33 : decode cL_law 33 = .ok (.iadd, 1) := allD_get dtL_law_k0 22 rfl
theorem dL_law_34 : decode cL_law 34 = .ok (.invokestatic 114, 3) := allD_get dtL_law_k0 23 rfl
theorem dL_law_37 : decode cL_law 37 = .ok (.istore 5, 2) := allD_get dtL_law_k0 24 rfl
theorem dL_law_39 : decode cL_law 39 = .ok (.aload_n 1, 1) := allD_get dtL_law_k0 25 rfl
theorem dL_law_40 : decode cL_law 40 = .ok (.iconst 0, 1) := allD_get dtL_law_k0 26 rfl
theorem dL_law_41 : decode cL_law 41 = .ok (.invokevirtual 9, 3) := allD_get dtL_law_k0 27 rfl
theorem dL_law_44 : decode cL_law 44 = .ok (.istore 6, 2) := allD_get dtL_law_k0 28 rfl
theorem dL_law_46 : decode cL_law 46 = .ok (.iload_n 3, 1) := allD_get dtL_law_k0 29 rfl
theorem dL_law_47 : decode cL_law 47 = .ok (.iconst 2, 1) := allD_get dtL_law_k0 30 rfl
theorem dL_law_48 : decode cL_law 48 = .ok (.if_icmp .ge 7, 3) := allD_get dtL_law_k0 31 rfl
theorem dL_law_51 : decode cL_law 51 = .ok (.iconst 0, 1) := allD_get dtL_law_k0 32 rfl
theorem dL_law_52 : decode cL_law 52 = .ok (.goto 10, 3) := allD_get dtL_law_k0 33 rfl
theorem dL_law_55 : decode cL_law 55 = .ok (.iload 4, 2) := allD_get dtL_law_k0 34 rfl
theorem dL_law_57 : decode cL_law 57 = .ok (.bipush 11, 2) := allD_get dtL_law_k0 35 rfl
theorem dL_law_59 : decode cL_law 59 = .ok (.invokestatic 35, 3) := allD_get dtL_law_k0 36 rfl
theorem dL_law_62 : decode cL_law 62 = .ok (.istore 7, 2) := allD_get dtL_law_k0 37 rfl
theorem dL_law_64 : decode cL_law 64 = .ok (.iload 4, 2) := allD_get dtL_law_k0 38 rfl
theorem dL_law_66 : decode cL_law 66 = .ok (.iconst 4, 1) := allD_get dtL_law_k0 39 rfl
theorem dL_law_67 : decode cL_law 67 = .ok (.ishr, 1) := allD_get dtL_law_k0 40 rfl
theorem dL_law_68 : decode cL_law 68 = .ok (.istore 4, 2) := allD_get dtL_law_k0 41 rfl
theorem dL_law_70 : decode cL_law 70 = .ok (.iload 6, 2) := allD_get dtL_law_k0 42 rfl
theorem dL_law_72 : decode cL_law 72 = .ok (.ifCond .ne 7, 3) := allD_get dtL_law_k0 43 rfl
theorem dL_law_75 : decode cL_law 75 = .ok (.iconst 0, 1) := allD_get dtL_law_k0 44 rfl
theorem dL_law_76 : decode cL_law 76 = .ok (.goto 10, 3) := allD_get dtL_law_k0 45 rfl
theorem dL_law_79 : decode cL_law 79 = .ok (.iload 4, 2) := allD_get dtL_law_k0 46 rfl
theorem dL_law_81 : decode cL_law 81 = .ok (.iload 6, 2) := allD_get dtL_law_k0 47 rfl
theorem dL_law_83 : decode cL_law 83 = .ok (.invokestatic 35, 3) := allD_get dtL_law_k0 48 rfl
theorem dL_law_86 : decode cL_law 86 = .ok (.istore 8, 2) := allD_get dtL_law_k0 49 rfl
theorem dL_law_88 : decode cL_law 88 = .ok (.aload_n 1, 1) := allD_get dtL_law_k0 50 rfl
theorem dL_law_89 : decode cL_law 89 = .ok (.invokestatic 59, 3) := allD_get dtL_law_k0 51 rfl
theorem dL_law_92 : decode cL_law 92 = .ok (.lstore 9, 2) := allD_get dtL_law_k0 52 rfl
theorem dL_law_94 : decode cL_law 94 = .ok (.iload 7, 2) := allD_get dtL_law_k0 53 rfl
theorem dL_law_96 : decode cL_law 96 = .ok (.iconst 4, 1) := allD_get dtL_law_k0 54 rfl
theorem dL_law_97 : decode cL_law 97 = .ok (.if_icmp .ge 204, 3) := allD_get dtL_law_k0 55 rfl
theorem dL_law_100 : decode cL_law 100 = .ok (.iconst 1, 1) := allD_get dtL_law_k0 56 rfl
theorem dL_law_101 : decode cL_law 101 = .ok (.iload 4, 2) := allD_get dtL_law_k0 57 rfl
theorem dL_law_103 : decode cL_law 103 = .ok (.bipush 9, 2) := allD_get dtL_law_k0 58 rfl
theorem dL_law_105 : decode cL_law 105 = .ok (.invokestatic 35, 3) := allD_get dtL_law_k0 59 rfl
def tbL_law_k1 : List (Nat × Instr × Nat) := [(108, .iadd, 1), (109, .istore 11, 2), (111, .iload 5, 2), (113, .sipush 900, 3), (116, .invokestatic 35, 3), (119, .istore 12, 2), (121, .iload 5, 2), (123, .bipush 10, 2), (125, .ishr, 1), (126, .sipush 900, 3), (129, .invokestatic 35, 3), (132, .istore 13, 2), (134, .iconst 0, 1), (135, .istore 14, 2), (137, .iload 14, 2), (139, .iload 11, 2), (141, .if_icmp .ge 70, 3), (144, .aload_n 1, 1), (145, .iload 12, 2), (147, .iload 13, 2), (149, .invokevirtual 95, 3), (152, .pop, 1), (153, .iload 12, 2), (155, .iload 4, 2), (157, .iload 14, 2), (159, .ishr, 1), (160, .bipush 41, 2), (162, .invokestatic 35, 3), (165, .iadd, 1), (166, .bipush 10, 2), (168, .isub, 1), (169, .sipush 1001, 3), (172, .iadd, 1), (173, .sipush 1001, 3), (176, .irem, 1), (177, .istore 12, 2), (179, .iload 13, 2), (181, .iload 5, 2), (183, .iload 14, 2), (185, .ishr, 1), (186, .bipush 31, 2), (188, .invokestatic 35, 3), (191, .iadd, 1), (192, .bipush 15, 2), (194, .isub, 1), (195, .sipush 1001, 3), (198, .iadd, 1), (199, .sipush 1001, 3), (202, .irem, 1), (203, .istore 13, 2), (205, .iinc 14 1, 3), (208, .goto (-71), 3), (211, .aload_n 1, 1), (212, .bipush 7, 2), (214, .invokevirtual 9, 3), (217, .istore 14, 2), (219, .aload_n 1, 1), (220, .iload 4, 2), (222, .iconst 5, 1), (223, .ishr, 1)]
set_option maxRecDepth 100000 in
theorem dtL_law_k1 : allD cL_law tbL_law_k1 = true := by decide +kernel
theorem dL_law_108 : decode cL_law 108 = .ok (.iadd, 1) := allD_get dtL_law_k1 0 rfl
theorem dL_law_109 : decode cL_law 109 = .ok (.istore 11, 2) := allD_get dtL_law_k1 1 rfl
theorem dL_law_111 : decode cL_law 111 = .ok (.iload 5, 2) := allD_get dtL_law_k1 2 rfl
theorem dL_law_113 : decode cL_law 113 = .ok (.sipush 900, 3) := allD_get dtL_law_k1 3 rfl
theorem dL_law_116 : decode cL_law 116 = .ok (.invokestatic 35, 3) := allD_get dtL_law_k1 4 rfl
theorem dL_law_119 : decode cL_law 119 = .ok (.istore 12, 2) := allD_get dtL_law_k1 5 rfl
theorem dL_law_121 : decode cL_law 121 = .ok (.iload 5, 2) := allD_get dtL_law_k1 6 rfl
theorem dL_law_123 : decode cL_law 123 = .ok (.bipush 10, 2) := allD_get dtL_law_k1 7 rfl
theorem dL_law_125 : decode cL_law 125 = .ok (.ishr, 1) := allD_get dtL_law_k1 8 rfl
theorem dL_law_126 : decode cL_law 126 = .ok (.sipush 900, 3) := allD_get dtL_law_k1 9 rfl
theorem dL_law_129 : decode cL_law 129 = .ok (.invokestatic 35, 3) := allD_get dtL_law_k1 10 rfl
theorem dL_law_132 : decode cL_law 132 = .ok (.istore 13, 2) := allD_get dtL_law_k1 11 rfl
theorem dL_law_134 : decode cL_law 134 = .ok (.iconst 0, 1) := allD_get dtL_law_k1 12 rfl
theorem dL_law_135 : decode cL_law 135 = .ok (.istore 14, 2) := allD_get dtL_law_k1 13 rfl
theorem dL_law_137 : decode cL_law 137 = .ok (.iload 14, 2) := allD_get dtL_law_k1 14 rfl
theorem dL_law_139 : decode cL_law 139 = .ok (.iload 11, 2) := allD_get dtL_law_k1 15 rfl
theorem dL_law_141 : decode cL_law 141 = .ok (.if_icmp .ge 70, 3) := allD_get dtL_law_k1 16 rfl
theorem dL_law_144 : decode cL_law 144 = .ok (.aload_n 1, 1) := allD_get dtL_law_k1 17 rfl
theorem dL_law_145 : decode cL_law 145 = .ok (.iload 12, 2) := allD_get dtL_law_k1 18 rfl
theorem dL_law_147 : decode cL_law 147 = .ok (.iload 13, 2) := allD_get dtL_law_k1 19 rfl
theorem dL_law_149 : decode cL_law 149 = .ok (.invokevirtual 95, 3) := allD_get dtL_law_k1 20 rfl
theorem dL_law_152 : decode cL_law 152 = .ok (.pop, 1) := allD_get dtL_law_k1 21 rfl
theorem dL_law_153 : decode cL_law 153 = .ok (.iload 12, 2) := allD_get dtL_law_k1 22 rfl
theorem dL_law_155 : decode cL_law 155 = .ok (.iload 4, 2) := allD_get dtL_law_k1 23 rfl
theorem dL_law_157 : decode cL_law 157 = .ok (.iload 14, 2) := allD_get dtL_law_k1 24 rfl
theorem dL_law_159 : decode cL_law 159 = .ok (.ishr, 1) := allD_get dtL_law_k1 25 rfl
theorem dL_law_160 : decode cL_law 160 = .ok (.bipush 41, 2) := allD_get dtL_law_k1 26 rfl
theorem dL_law_162 : decode cL_law 162 = .ok (.invokestatic 35, 3) := allD_get dtL_law_k1 27 rfl
theorem dL_law_165 : decode cL_law 165 = .ok (.iadd, 1) := allD_get dtL_law_k1 28 rfl
theorem dL_law_166 : decode cL_law 166 = .ok (.bipush 10, 2) := allD_get dtL_law_k1 29 rfl
theorem dL_law_168 : decode cL_law 168 = .ok (.isub, 1) := allD_get dtL_law_k1 30 rfl
theorem dL_law_169 : decode cL_law 169 = .ok (.sipush 1001, 3) := allD_get dtL_law_k1 31 rfl
theorem dL_law_172 : decode cL_law 172 = .ok (.iadd, 1) := allD_get dtL_law_k1 32 rfl
theorem dL_law_173 : decode cL_law 173 = .ok (.sipush 1001, 3) := allD_get dtL_law_k1 33 rfl
theorem dL_law_176 : decode cL_law 176 = .ok (.irem, 1) := allD_get dtL_law_k1 34 rfl
theorem dL_law_177 : decode cL_law 177 = .ok (.istore 12, 2) := allD_get dtL_law_k1 35 rfl
theorem dL_law_179 : decode cL_law 179 = .ok (.iload 13, 2) := allD_get dtL_law_k1 36 rfl
theorem dL_law_181 : decode cL_law 181 = .ok (.iload 5, 2) := allD_get dtL_law_k1 37 rfl
theorem dL_law_183 : decode cL_law 183 = .ok (.iload 14, 2) := allD_get dtL_law_k1 38 rfl
theorem dL_law_185 : decode cL_law 185 = .ok (.ishr, 1) := allD_get dtL_law_k1 39 rfl
theorem dL_law_186 : decode cL_law 186 = .ok (.bipush 31, 2) := allD_get dtL_law_k1 40 rfl
theorem dL_law_188 : decode cL_law 188 = .ok (.invokestatic 35, 3) := allD_get dtL_law_k1 41 rfl
theorem dL_law_191 : decode cL_law 191 = .ok (.iadd, 1) := allD_get dtL_law_k1 42 rfl
theorem dL_law_192 : decode cL_law 192 = .ok (.bipush 15, 2) := allD_get dtL_law_k1 43 rfl
theorem dL_law_194 : decode cL_law 194 = .ok (.isub, 1) := allD_get dtL_law_k1 44 rfl
theorem dL_law_195 : decode cL_law 195 = .ok (.sipush 1001, 3) := allD_get dtL_law_k1 45 rfl
theorem dL_law_198 : decode cL_law 198 = .ok (.iadd, 1) := allD_get dtL_law_k1 46 rfl
theorem dL_law_199 : decode cL_law 199 = .ok (.sipush 1001, 3) := allD_get dtL_law_k1 47 rfl
theorem dL_law_202 : decode cL_law 202 = .ok (.irem, 1) := allD_get dtL_law_k1 48 rfl
theorem dL_law_203 : decode cL_law 203 = .ok (.istore 13, 2) := allD_get dtL_law_k1 49 rfl
theorem dL_law_205 : decode cL_law 205 = .ok (.iinc 14 1, 3) := allD_get dtL_law_k1 50 rfl
theorem dL_law_208 : decode cL_law 208 = .ok (.goto (-71), 3) := allD_get dtL_law_k1 51 rfl
theorem dL_law_211 : decode cL_law 211 = .ok (.aload_n 1, 1) := allD_get dtL_law_k1 52 rfl
theorem dL_law_212 : decode cL_law 212 = .ok (.bipush 7, 2) := allD_get dtL_law_k1 53 rfl
theorem dL_law_214 : decode cL_law 214 = .ok (.invokevirtual 9, 3) := allD_get dtL_law_k1 54 rfl
theorem dL_law_217 : decode cL_law 217 = .ok (.istore 14, 2) := allD_get dtL_law_k1 55 rfl
theorem dL_law_219 : decode cL_law 219 = .ok (.aload_n 1, 1) := allD_get dtL_law_k1 56 rfl
theorem dL_law_220 : decode cL_law 220 = .ok (.iload 4, 2) := allD_get dtL_law_k1 57 rfl
theorem dL_law_222 : decode cL_law 222 = .ok (.iconst 5, 1) := allD_get dtL_law_k1 58 rfl
theorem dL_law_223 : decode cL_law 223 = .ok (.ishr, 1) := allD_get dtL_law_k1 59 rfl
def tbL_law_k2 : List (Nat × Instr × Nat) := [(224, .iconst 4, 1), (225, .invokestatic 35, 3), (228, .invokevirtual 98, 3), (231, .istore 15, 2), (233, .iload 15, 2), (235, .iload 6, 2), (237, .bipush 16, 2), (239, .if_icmp .ne 8, 3), (242, .bipush (-3), 2), (244, .goto 5, 3), (247, .iload 6, 2), (249, .if_icmp .ne 47, 3), (252, .iload 6, 2), (254, .bipush 16, 2), (256, .if_icmp .ge 24, 3), (259, .aload_n 1, 1), (260, .iload 6, 2), (262, .iconst 1, 1), (263, .invokevirtual 17, 3), (266, .iload 14, 2), (268, .if_icmp .ne 28, 3), (271, .aload_n 1, 1), (272, .bipush 7, 2), (274, .invokevirtual 9, 3), (277, .ifCond .ne 19, 3), (280, .iload 6, 2), (282, .bipush 16, 2), (284, .if_icmp .ne 14, 3), (287, .aload_n 1, 1), (288, .invokevirtual 92, 3), (291, .iload 14, 2), (293, .if_icmp .eq 5, 3), (296, .iconst 0, 1), (297, .ireturn, 1), (298, .goto 534, 3), (301, .iload 7, 2), (303, .iconst 4, 1), (304, .if_icmp .ne 95, 3), (307, .iload 6, 2), (309, .ifCond .le 14, 3), (312, .iload 5, 2), (314, .iconst 1, 1), (315, .iand, 1), (316, .ifCond .ne 7, 3), (319, .iconst 1, 1), (320, .goto 4, 3), (323, .iconst 0, 1), (324, .istore 11, 2), (326, .aload_n 1, 1), (327, .iload 11, 2), (329, .ifCond .eq 14, 3), (332, .aload_n 1, 1), (333, .iload 8, 2), (335, .iconst 0, 1), (336, .iconst 0, 1), (337, .invokevirtual 23, 3), (340, .goto 11, 3), (343, .iload 5, 2), (345, .sipush 1001, 3), (348, .invokestatic 35, 3)]
set_option maxRecDepth 100000 in
theorem dtL_law_k2 : allD cL_law tbL_law_k2 = true := by decide +kernel
theorem dL_law_224 : decode cL_law 224 = .ok (.iconst 4, 1) := allD_get dtL_law_k2 0 rfl
theorem dL_law_225 : decode cL_law 225 = .ok (.invokestatic 35, 3) := allD_get dtL_law_k2 1 rfl
theorem dL_law_228 : decode cL_law 228 = .ok (.invokevirtual 98, 3) := allD_get dtL_law_k2 2 rfl
theorem dL_law_231 : decode cL_law 231 = .ok (.istore 15, 2) := allD_get dtL_law_k2 3 rfl
theorem dL_law_233 : decode cL_law 233 = .ok (.iload 15, 2) := allD_get dtL_law_k2 4 rfl
theorem dL_law_235 : decode cL_law 235 = .ok (.iload 6, 2) := allD_get dtL_law_k2 5 rfl
theorem dL_law_237 : decode cL_law 237 = .ok (.bipush 16, 2) := allD_get dtL_law_k2 6 rfl
theorem dL_law_239 : decode cL_law 239 = .ok (.if_icmp .ne 8, 3) := allD_get dtL_law_k2 7 rfl
theorem dL_law_242 : decode cL_law 242 = .ok (.bipush (-3), 2) := allD_get dtL_law_k2 8 rfl
theorem dL_law_244 : decode cL_law 244 = .ok (.goto 5, 3) := allD_get dtL_law_k2 9 rfl
theorem dL_law_247 : decode cL_law 247 = .ok (.iload 6, 2) := allD_get dtL_law_k2 10 rfl
theorem dL_law_249 : decode cL_law 249 = .ok (.if_icmp .ne 47, 3) := allD_get dtL_law_k2 11 rfl
theorem dL_law_252 : decode cL_law 252 = .ok (.iload 6, 2) := allD_get dtL_law_k2 12 rfl
theorem dL_law_254 : decode cL_law 254 = .ok (.bipush 16, 2) := allD_get dtL_law_k2 13 rfl
theorem dL_law_256 : decode cL_law 256 = .ok (.if_icmp .ge 24, 3) := allD_get dtL_law_k2 14 rfl
theorem dL_law_259 : decode cL_law 259 = .ok (.aload_n 1, 1) := allD_get dtL_law_k2 15 rfl
theorem dL_law_260 : decode cL_law 260 = .ok (.iload 6, 2) := allD_get dtL_law_k2 16 rfl
theorem dL_law_262 : decode cL_law 262 = .ok (.iconst 1, 1) := allD_get dtL_law_k2 17 rfl
theorem dL_law_263 : decode cL_law 263 = .ok (.invokevirtual 17, 3) := allD_get dtL_law_k2 18 rfl
theorem dL_law_266 : decode cL_law 266 = .ok (.iload 14, 2) := allD_get dtL_law_k2 19 rfl
theorem dL_law_268 : decode cL_law 268 = .ok (.if_icmp .ne 28, 3) := allD_get dtL_law_k2 20 rfl
theorem dL_law_271 : decode cL_law 271 = .ok (.aload_n 1, 1) := allD_get dtL_law_k2 21 rfl
theorem dL_law_272 : decode cL_law 272 = .ok (.bipush 7, 2) := allD_get dtL_law_k2 22 rfl
theorem dL_law_274 : decode cL_law 274 = .ok (.invokevirtual 9, 3) := allD_get dtL_law_k2 23 rfl
theorem dL_law_277 : decode cL_law 277 = .ok (.ifCond .ne 19, 3) := allD_get dtL_law_k2 24 rfl
theorem dL_law_280 : decode cL_law 280 = .ok (.iload 6, 2) := allD_get dtL_law_k2 25 rfl
theorem dL_law_282 : decode cL_law 282 = .ok (.bipush 16, 2) := allD_get dtL_law_k2 26 rfl
theorem dL_law_284 : decode cL_law 284 = .ok (.if_icmp .ne 14, 3) := allD_get dtL_law_k2 27 rfl
theorem dL_law_287 : decode cL_law 287 = .ok (.aload_n 1, 1) := allD_get dtL_law_k2 28 rfl
theorem dL_law_288 : decode cL_law 288 = .ok (.invokevirtual 92, 3) := allD_get dtL_law_k2 29 rfl
theorem dL_law_291 : decode cL_law 291 = .ok (.iload 14, 2) := allD_get dtL_law_k2 30 rfl
theorem dL_law_293 : decode cL_law 293 = .ok (.if_icmp .eq 5, 3) := allD_get dtL_law_k2 31 rfl
theorem dL_law_296 : decode cL_law 296 = .ok (.iconst 0, 1) := allD_get dtL_law_k2 32 rfl
theorem dL_law_297 : decode cL_law 297 = .ok (.ireturn, 1) := allD_get dtL_law_k2 33 rfl
theorem dL_law_298 : decode cL_law 298 = .ok (.goto 534, 3) := allD_get dtL_law_k2 34 rfl
theorem dL_law_301 : decode cL_law 301 = .ok (.iload 7, 2) := allD_get dtL_law_k2 35 rfl
theorem dL_law_303 : decode cL_law 303 = .ok (.iconst 4, 1) := allD_get dtL_law_k2 36 rfl
theorem dL_law_304 : decode cL_law 304 = .ok (.if_icmp .ne 95, 3) := allD_get dtL_law_k2 37 rfl
theorem dL_law_307 : decode cL_law 307 = .ok (.iload 6, 2) := allD_get dtL_law_k2 38 rfl
theorem dL_law_309 : decode cL_law 309 = .ok (.ifCond .le 14, 3) := allD_get dtL_law_k2 39 rfl
theorem dL_law_312 : decode cL_law 312 = .ok (.iload 5, 2) := allD_get dtL_law_k2 40 rfl
theorem dL_law_314 : decode cL_law 314 = .ok (.iconst 1, 1) := allD_get dtL_law_k2 41 rfl
theorem dL_law_315 : decode cL_law 315 = .ok (.iand, 1) := allD_get dtL_law_k2 42 rfl
theorem dL_law_316 : decode cL_law 316 = .ok (.ifCond .ne 7, 3) := allD_get dtL_law_k2 43 rfl
theorem dL_law_319 : decode cL_law 319 = .ok (.iconst 1, 1) := allD_get dtL_law_k2 44 rfl
theorem dL_law_320 : decode cL_law 320 = .ok (.goto 4, 3) := allD_get dtL_law_k2 45 rfl
theorem dL_law_323 : decode cL_law 323 = .ok (.iconst 0, 1) := allD_get dtL_law_k2 46 rfl
theorem dL_law_324 : decode cL_law 324 = .ok (.istore 11, 2) := allD_get dtL_law_k2 47 rfl
theorem dL_law_326 : decode cL_law 326 = .ok (.aload_n 1, 1) := allD_get dtL_law_k2 48 rfl
theorem dL_law_327 : decode cL_law 327 = .ok (.iload 11, 2) := allD_get dtL_law_k2 49 rfl
theorem dL_law_329 : decode cL_law 329 = .ok (.ifCond .eq 14, 3) := allD_get dtL_law_k2 50 rfl
theorem dL_law_332 : decode cL_law 332 = .ok (.aload_n 1, 1) := allD_get dtL_law_k2 51 rfl
theorem dL_law_333 : decode cL_law 333 = .ok (.iload 8, 2) := allD_get dtL_law_k2 52 rfl
theorem dL_law_335 : decode cL_law 335 = .ok (.iconst 0, 1) := allD_get dtL_law_k2 53 rfl
theorem dL_law_336 : decode cL_law 336 = .ok (.iconst 0, 1) := allD_get dtL_law_k2 54 rfl
theorem dL_law_337 : decode cL_law 337 = .ok (.invokevirtual 23, 3) := allD_get dtL_law_k2 55 rfl
theorem dL_law_340 : decode cL_law 340 = .ok (.goto 11, 3) := allD_get dtL_law_k2 56 rfl
theorem dL_law_343 : decode cL_law 343 = .ok (.iload 5, 2) := allD_get dtL_law_k2 57 rfl
theorem dL_law_345 : decode cL_law 345 = .ok (.sipush 1001, 3) := allD_get dtL_law_k2 58 rfl
theorem dL_law_348 : decode cL_law 348 = .ok (.invokestatic 35, 3) := allD_get dtL_law_k2 59 rfl
def tbL_law_k3 : List (Nat × Instr × Nat) := [(351, .iload 11, 2), (353, .ifCond .eq 14, 3), (356, .aload_n 1, 1), (357, .iload 8, 2), (359, .iconst 0, 1), (360, .iconst 1, 1), (361, .invokevirtual 23, 3), (364, .goto 14, 3), (367, .iload 5, 2), (369, .bipush 10, 2), (371, .ishr, 1), (372, .sipush 1001, 3), (375, .invokestatic 35, 3), (378, .iload 4, 2), (380, .bipush 6, 2), (382, .ishr, 1), (383, .bipush 80, 2), (385, .invokestatic 35, 3), (388, .invokestatic 117, 3), (391, .ifCond .ne 5, 3), (394, .iconst 0, 1), (395, .ireturn, 1), (396, .goto 436, 3), (399, .iload 7, 2), (401, .bipush 7, 2), (403, .if_icmp .ge 25, 3), (406, .iload 6, 2), (408, .ifCond .le 20, 3), (411, .aload_n 1, 1), (412, .iload 8, 2), (414, .iload 4, 2), (416, .iconst 5, 1), (417, .ishr, 1), (418, .iload 5, 2), (420, .invokestatic 121, 3), (423, .ifCond .ne 409, 3), (426, .iconst 0, 1), (427, .ireturn, 1), (428, .iload 7, 2), (430, .bipush 7, 2), (432, .if_icmp .ne 26, 3), (435, .iload 6, 2), (437, .ifCond .le 21, 3), (440, .aload_n 1, 1), (441, .iload 8, 2), (443, .iload 5, 2), (445, .iload 6, 2), (447, .invokestatic 35, 3), (450, .invokestatic 124, 3), (453, .ifCond .ne 379, 3), (456, .iconst 0, 1), (457, .ireturn, 1), (458, .iload 7, 2), (460, .bipush 8, 2), (462, .if_icmp .ne 79, 3), (465, .iload 6, 2), (467, .ifCond .le 74, 3), (470, .iload 5, 2), (472, .iconst 4, 1), (473, .invokestatic 35, 3)]
set_option maxRecDepth 100000 in
theorem dtL_law_k3 : allD cL_law tbL_law_k3 = true := by decide +kernel
theorem dL_law_351 : decode cL_law 351 = .ok (.iload 11, 2) := allD_get dtL_law_k3 0 rfl
theorem dL_law_353 : decode cL_law 353 = .ok (.ifCond .eq 14, 3) := allD_get dtL_law_k3 1 rfl
theorem dL_law_356 : decode cL_law 356 = .ok (.aload_n 1, 1) := allD_get dtL_law_k3 2 rfl
theorem dL_law_357 : decode cL_law 357 = .ok (.iload 8, 2) := allD_get dtL_law_k3 3 rfl
theorem dL_law_359 : decode cL_law 359 = .ok (.iconst 0, 1) := allD_get dtL_law_k3 4 rfl
theorem dL_law_360 : decode cL_law 360 = .ok (.iconst 1, 1) := allD_get dtL_law_k3 5 rfl
theorem dL_law_361 : decode cL_law 361 = .ok (.invokevirtual 23, 3) := allD_get dtL_law_k3 6 rfl
theorem dL_law_364 : decode cL_law 364 = .ok (.goto 14, 3) := allD_get dtL_law_k3 7 rfl
theorem dL_law_367 : decode cL_law 367 = .ok (.iload 5, 2) := allD_get dtL_law_k3 8 rfl
theorem dL_law_369 : decode cL_law 369 = .ok (.bipush 10, 2) := allD_get dtL_law_k3 9 rfl
theorem dL_law_371 : decode cL_law 371 = .ok (.ishr, 1) := allD_get dtL_law_k3 10 rfl
theorem dL_law_372 : decode cL_law 372 = .ok (.sipush 1001, 3) := allD_get dtL_law_k3 11 rfl
theorem dL_law_375 : decode cL_law 375 = .ok (.invokestatic 35, 3) := allD_get dtL_law_k3 12 rfl
theorem dL_law_378 : decode cL_law 378 = .ok (.iload 4, 2) := allD_get dtL_law_k3 13 rfl
theorem dL_law_380 : decode cL_law 380 = .ok (.bipush 6, 2) := allD_get dtL_law_k3 14 rfl
theorem dL_law_382 : decode cL_law 382 = .ok (.ishr, 1) := allD_get dtL_law_k3 15 rfl
theorem dL_law_383 : decode cL_law 383 = .ok (.bipush 80, 2) := allD_get dtL_law_k3 16 rfl
theorem dL_law_385 : decode cL_law 385 = .ok (.invokestatic 35, 3) := allD_get dtL_law_k3 17 rfl
theorem dL_law_388 : decode cL_law 388 = .ok (.invokestatic 117, 3) := allD_get dtL_law_k3 18 rfl
theorem dL_law_391 : decode cL_law 391 = .ok (.ifCond .ne 5, 3) := allD_get dtL_law_k3 19 rfl
theorem dL_law_394 : decode cL_law 394 = .ok (.iconst 0, 1) := allD_get dtL_law_k3 20 rfl
theorem dL_law_395 : decode cL_law 395 = .ok (.ireturn, 1) := allD_get dtL_law_k3 21 rfl
theorem dL_law_396 : decode cL_law 396 = .ok (.goto 436, 3) := allD_get dtL_law_k3 22 rfl
theorem dL_law_399 : decode cL_law 399 = .ok (.iload 7, 2) := allD_get dtL_law_k3 23 rfl
theorem dL_law_401 : decode cL_law 401 = .ok (.bipush 7, 2) := allD_get dtL_law_k3 24 rfl
theorem dL_law_403 : decode cL_law 403 = .ok (.if_icmp .ge 25, 3) := allD_get dtL_law_k3 25 rfl
theorem dL_law_406 : decode cL_law 406 = .ok (.iload 6, 2) := allD_get dtL_law_k3 26 rfl
theorem dL_law_408 : decode cL_law 408 = .ok (.ifCond .le 20, 3) := allD_get dtL_law_k3 27 rfl
theorem dL_law_411 : decode cL_law 411 = .ok (.aload_n 1, 1) := allD_get dtL_law_k3 28 rfl
theorem dL_law_412 : decode cL_law 412 = .ok (.iload 8, 2) := allD_get dtL_law_k3 29 rfl
theorem dL_law_414 : decode cL_law 414 = .ok (.iload 4, 2) := allD_get dtL_law_k3 30 rfl
theorem dL_law_416 : decode cL_law 416 = .ok (.iconst 5, 1) := allD_get dtL_law_k3 31 rfl
theorem dL_law_417 : decode cL_law 417 = .ok (.ishr, 1) := allD_get dtL_law_k3 32 rfl
theorem dL_law_418 : decode cL_law 418 = .ok (.iload 5, 2) := allD_get dtL_law_k3 33 rfl
theorem dL_law_420 : decode cL_law 420 = .ok (.invokestatic 121, 3) := allD_get dtL_law_k3 34 rfl
theorem dL_law_423 : decode cL_law 423 = .ok (.ifCond .ne 409, 3) := allD_get dtL_law_k3 35 rfl
theorem dL_law_426 : decode cL_law 426 = .ok (.iconst 0, 1) := allD_get dtL_law_k3 36 rfl
theorem dL_law_427 : decode cL_law 427 = .ok (.ireturn, 1) := allD_get dtL_law_k3 37 rfl
theorem dL_law_428 : decode cL_law 428 = .ok (.iload 7, 2) := allD_get dtL_law_k3 38 rfl
theorem dL_law_430 : decode cL_law 430 = .ok (.bipush 7, 2) := allD_get dtL_law_k3 39 rfl
theorem dL_law_432 : decode cL_law 432 = .ok (.if_icmp .ne 26, 3) := allD_get dtL_law_k3 40 rfl
theorem dL_law_435 : decode cL_law 435 = .ok (.iload 6, 2) := allD_get dtL_law_k3 41 rfl
theorem dL_law_437 : decode cL_law 437 = .ok (.ifCond .le 21, 3) := allD_get dtL_law_k3 42 rfl
theorem dL_law_440 : decode cL_law 440 = .ok (.aload_n 1, 1) := allD_get dtL_law_k3 43 rfl
theorem dL_law_441 : decode cL_law 441 = .ok (.iload 8, 2) := allD_get dtL_law_k3 44 rfl
theorem dL_law_443 : decode cL_law 443 = .ok (.iload 5, 2) := allD_get dtL_law_k3 45 rfl
theorem dL_law_445 : decode cL_law 445 = .ok (.iload 6, 2) := allD_get dtL_law_k3 46 rfl
theorem dL_law_447 : decode cL_law 447 = .ok (.invokestatic 35, 3) := allD_get dtL_law_k3 47 rfl
theorem dL_law_450 : decode cL_law 450 = .ok (.invokestatic 124, 3) := allD_get dtL_law_k3 48 rfl
theorem dL_law_453 : decode cL_law 453 = .ok (.ifCond .ne 379, 3) := allD_get dtL_law_k3 49 rfl
theorem dL_law_456 : decode cL_law 456 = .ok (.iconst 0, 1) := allD_get dtL_law_k3 50 rfl
theorem dL_law_457 : decode cL_law 457 = .ok (.ireturn, 1) := allD_get dtL_law_k3 51 rfl
theorem dL_law_458 : decode cL_law 458 = .ok (.iload 7, 2) := allD_get dtL_law_k3 52 rfl
theorem dL_law_460 : decode cL_law 460 = .ok (.bipush 8, 2) := allD_get dtL_law_k3 53 rfl
theorem dL_law_462 : decode cL_law 462 = .ok (.if_icmp .ne 79, 3) := allD_get dtL_law_k3 54 rfl
theorem dL_law_465 : decode cL_law 465 = .ok (.iload 6, 2) := allD_get dtL_law_k3 55 rfl
theorem dL_law_467 : decode cL_law 467 = .ok (.ifCond .le 74, 3) := allD_get dtL_law_k3 56 rfl
theorem dL_law_470 : decode cL_law 470 = .ok (.iload 5, 2) := allD_get dtL_law_k3 57 rfl
theorem dL_law_472 : decode cL_law 472 = .ok (.iconst 4, 1) := allD_get dtL_law_k3 58 rfl
theorem dL_law_473 : decode cL_law 473 = .ok (.invokestatic 35, 3) := allD_get dtL_law_k3 59 rfl
def tbL_law_k4 : List (Nat × Instr × Nat) := [(476, .istore 11, 2), (478, .aload_n 1, 1), (479, .iload 8, 2), (481, .iconst 0, 1), (482, .invokevirtual 17, 3), (485, .istore 12, 2), (487, .aload_n 1, 1), (488, .iload 8, 2), (490, .iload 11, 2), (492, .invokevirtual 104, 3), (495, .iload 12, 2), (497, .iload 11, 2), (499, .if_icmp .ne 8, 3), (502, .bipush (-5), 2), (504, .goto 5, 3), (507, .iload 12, 2), (509, .if_icmp .ne 27, 3), (512, .aload_n 1, 1), (513, .iload 8, 2), (515, .iconst 0, 1), (516, .invokevirtual 17, 3), (519, .iload 11, 2), (521, .if_icmp .ne 15, 3), (524, .aload_n 1, 1), (525, .iload 8, 2), (527, .iconst 4, 1), (528, .invokevirtual 104, 3), (531, .bipush (-2), 2), (533, .if_icmp .eq 5, 3), (536, .iconst 0, 1), (537, .ireturn, 1), (538, .goto 294, 3), (541, .iload 7, 2), (543, .bipush 9, 2), (545, .if_icmp .ne 216, 3), (548, .iload 6, 2), (550, .ifCond .le 211, 3), (553, .iload 5, 2), (555, .bipush 101, 2), (557, .invokestatic 35, 3), (560, .bipush 50, 2), (562, .isub, 1), (563, .istore 11, 2), (565, .iload 5, 2), (567, .bipush 8, 2), (569, .ishr, 1), (570, .bipush 101, 2), (572, .invokestatic 35, 3), (575, .bipush 50, 2), (577, .isub, 1), (578, .istore 12, 2), (580, .aload_n 1, 1), (581, .iload 8, 2), (583, .iconst 2, 1), (584, .invokevirtual 17, 3), (587, .iload 11, 2), (589, .iadd, 1), (590, .ifCond .lt 52, 3), (593, .aload_n 1, 1), (594, .iload 8, 2)]
set_option maxRecDepth 100000 in
theorem dtL_law_k4 : allD cL_law tbL_law_k4 = true := by decide +kernel
theorem dL_law_476 : decode cL_law 476 = .ok (.istore 11, 2) := allD_get dtL_law_k4 0 rfl
theorem dL_law_478 : decode cL_law 478 = .ok (.aload_n 1, 1) := allD_get dtL_law_k4 1 rfl
theorem dL_law_479 : decode cL_law 479 = .ok (.iload 8, 2) := allD_get dtL_law_k4 2 rfl
theorem dL_law_481 : decode cL_law 481 = .ok (.iconst 0, 1) := allD_get dtL_law_k4 3 rfl
theorem dL_law_482 : decode cL_law 482 = .ok (.invokevirtual 17, 3) := allD_get dtL_law_k4 4 rfl
theorem dL_law_485 : decode cL_law 485 = .ok (.istore 12, 2) := allD_get dtL_law_k4 5 rfl
theorem dL_law_487 : decode cL_law 487 = .ok (.aload_n 1, 1) := allD_get dtL_law_k4 6 rfl
theorem dL_law_488 : decode cL_law 488 = .ok (.iload 8, 2) := allD_get dtL_law_k4 7 rfl
theorem dL_law_490 : decode cL_law 490 = .ok (.iload 11, 2) := allD_get dtL_law_k4 8 rfl
theorem dL_law_492 : decode cL_law 492 = .ok (.invokevirtual 104, 3) := allD_get dtL_law_k4 9 rfl
theorem dL_law_495 : decode cL_law 495 = .ok (.iload 12, 2) := allD_get dtL_law_k4 10 rfl
theorem dL_law_497 : decode cL_law 497 = .ok (.iload 11, 2) := allD_get dtL_law_k4 11 rfl
theorem dL_law_499 : decode cL_law 499 = .ok (.if_icmp .ne 8, 3) := allD_get dtL_law_k4 12 rfl
theorem dL_law_502 : decode cL_law 502 = .ok (.bipush (-5), 2) := allD_get dtL_law_k4 13 rfl
theorem dL_law_504 : decode cL_law 504 = .ok (.goto 5, 3) := allD_get dtL_law_k4 14 rfl
theorem dL_law_507 : decode cL_law 507 = .ok (.iload 12, 2) := allD_get dtL_law_k4 15 rfl
theorem dL_law_509 : decode cL_law 509 = .ok (.if_icmp .ne 27, 3) := allD_get dtL_law_k4 16 rfl
theorem dL_law_512 : decode cL_law 512 = .ok (.aload_n 1, 1) := allD_get dtL_law_k4 17 rfl
theorem dL_law_513 : decode cL_law 513 = .ok (.iload 8, 2) := allD_get dtL_law_k4 18 rfl
theorem dL_law_515 : decode cL_law 515 = .ok (.iconst 0, 1) := allD_get dtL_law_k4 19 rfl
theorem dL_law_516 : decode cL_law 516 = .ok (.invokevirtual 17, 3) := allD_get dtL_law_k4 20 rfl
theorem dL_law_519 : decode cL_law 519 = .ok (.iload 11, 2) := allD_get dtL_law_k4 21 rfl
theorem dL_law_521 : decode cL_law 521 = .ok (.if_icmp .ne 15, 3) := allD_get dtL_law_k4 22 rfl
theorem dL_law_524 : decode cL_law 524 = .ok (.aload_n 1, 1) := allD_get dtL_law_k4 23 rfl
theorem dL_law_525 : decode cL_law 525 = .ok (.iload 8, 2) := allD_get dtL_law_k4 24 rfl
theorem dL_law_527 : decode cL_law 527 = .ok (.iconst 4, 1) := allD_get dtL_law_k4 25 rfl
theorem dL_law_528 : decode cL_law 528 = .ok (.invokevirtual 104, 3) := allD_get dtL_law_k4 26 rfl
theorem dL_law_531 : decode cL_law 531 = .ok (.bipush (-2), 2) := allD_get dtL_law_k4 27 rfl
theorem dL_law_533 : decode cL_law 533 = .ok (.if_icmp .eq 5, 3) := allD_get dtL_law_k4 28 rfl
theorem dL_law_536 : decode cL_law 536 = .ok (.iconst 0, 1) := allD_get dtL_law_k4 29 rfl
theorem dL_law_537 : decode cL_law 537 = .ok (.ireturn, 1) := allD_get dtL_law_k4 30 rfl
theorem dL_law_538 : decode cL_law 538 = .ok (.goto 294, 3) := allD_get dtL_law_k4 31 rfl
theorem dL_law_541 : decode cL_law 541 = .ok (.iload 7, 2) := allD_get dtL_law_k4 32 rfl
theorem dL_law_543 : decode cL_law 543 = .ok (.bipush 9, 2) := allD_get dtL_law_k4 33 rfl
theorem dL_law_545 : decode cL_law 545 = .ok (.if_icmp .ne 216, 3) := allD_get dtL_law_k4 34 rfl
theorem dL_law_548 : decode cL_law 548 = .ok (.iload 6, 2) := allD_get dtL_law_k4 35 rfl
theorem dL_law_550 : decode cL_law 550 = .ok (.ifCond .le 211, 3) := allD_get dtL_law_k4 36 rfl
theorem dL_law_553 : decode cL_law 553 = .ok (.iload 5, 2) := allD_get dtL_law_k4 37 rfl
theorem dL_law_555 : decode cL_law 555 = .ok (.bipush 101, 2) := allD_get dtL_law_k4 38 rfl
theorem dL_law_557 : decode cL_law 557 = .ok (.invokestatic 35, 3) := allD_get dtL_law_k4 39 rfl
theorem dL_law_560 : decode cL_law 560 = .ok (.bipush 50, 2) := allD_get dtL_law_k4 40 rfl
theorem dL_law_562 : decode cL_law 562 = .ok (.isub, 1) := allD_get dtL_law_k4 41 rfl
theorem dL_law_563 : decode cL_law 563 = .ok (.istore 11, 2) := allD_get dtL_law_k4 42 rfl
theorem dL_law_565 : decode cL_law 565 = .ok (.iload 5, 2) := allD_get dtL_law_k4 43 rfl
theorem dL_law_567 : decode cL_law 567 = .ok (.bipush 8, 2) := allD_get dtL_law_k4 44 rfl
theorem dL_law_569 : decode cL_law 569 = .ok (.ishr, 1) := allD_get dtL_law_k4 45 rfl
theorem dL_law_570 : decode cL_law 570 = .ok (.bipush 101, 2) := allD_get dtL_law_k4 46 rfl
theorem dL_law_572 : decode cL_law 572 = .ok (.invokestatic 35, 3) := allD_get dtL_law_k4 47 rfl
theorem dL_law_575 : decode cL_law 575 = .ok (.bipush 50, 2) := allD_get dtL_law_k4 48 rfl
theorem dL_law_577 : decode cL_law 577 = .ok (.isub, 1) := allD_get dtL_law_k4 49 rfl
theorem dL_law_578 : decode cL_law 578 = .ok (.istore 12, 2) := allD_get dtL_law_k4 50 rfl
theorem dL_law_580 : decode cL_law 580 = .ok (.aload_n 1, 1) := allD_get dtL_law_k4 51 rfl
theorem dL_law_581 : decode cL_law 581 = .ok (.iload 8, 2) := allD_get dtL_law_k4 52 rfl
theorem dL_law_583 : decode cL_law 583 = .ok (.iconst 2, 1) := allD_get dtL_law_k4 53 rfl
theorem dL_law_584 : decode cL_law 584 = .ok (.invokevirtual 17, 3) := allD_get dtL_law_k4 54 rfl
theorem dL_law_587 : decode cL_law 587 = .ok (.iload 11, 2) := allD_get dtL_law_k4 55 rfl
theorem dL_law_589 : decode cL_law 589 = .ok (.iadd, 1) := allD_get dtL_law_k4 56 rfl
theorem dL_law_590 : decode cL_law 590 = .ok (.ifCond .lt 52, 3) := allD_get dtL_law_k4 57 rfl
theorem dL_law_593 : decode cL_law 593 = .ok (.aload_n 1, 1) := allD_get dtL_law_k4 58 rfl
theorem dL_law_594 : decode cL_law 594 = .ok (.iload 8, 2) := allD_get dtL_law_k4 59 rfl
def tbL_law_k5 : List (Nat × Instr × Nat) := [(596, .iconst 3, 1), (597, .invokevirtual 17, 3), (600, .iload 11, 2), (602, .iadd, 1), (603, .sipush 1000, 3), (606, .if_icmp .gt 36, 3), (609, .aload_n 1, 1), (610, .iload 8, 2), (612, .iconst 4, 1), (613, .invokevirtual 17, 3), (616, .iload 12, 2), (618, .iadd, 1), (619, .ifCond .lt 23, 3), (622, .aload_n 1, 1), (623, .iload 8, 2), (625, .iconst 5, 1), (626, .invokevirtual 17, 3), (629, .iload 12, 2), (631, .iadd, 1), (632, .sipush 1000, 3), (635, .if_icmp .gt 7, 3), (638, .iconst 1, 1), (639, .goto 4, 3), (642, .iconst 0, 1), (643, .istore 13, 2), (645, .aload_n 1, 1), (646, .iload 8, 2), (648, .bipush 6, 2), (650, .invokevirtual 17, 3), (653, .istore 14, 2), (655, .aload_n 1, 1), (656, .iload 8, 2), (658, .iconst 1, 1), (659, .invokevirtual 17, 3), (662, .istore 15, 2), (664, .aload_n 1, 1), (665, .iload 8, 2), (667, .iconst 0, 1), (668, .iconst 0, 1), (669, .invokevirtual 23, 3), (672, .istore 16, 2), (674, .aload_n 1, 1), (675, .iload 8, 2), (677, .iload 11, 2), (679, .iload 12, 2), (681, .invokevirtual 101, 3), (684, .istore 17, 2), (686, .iload 17, 2), (688, .iload 13, 2), (690, .ifCond .ne 8, 3), (693, .bipush (-4), 2), (695, .goto 20, 3), (698, .iload 11, 2), (700, .ifCond .ne 13, 3), (703, .iload 12, 2), (705, .ifCond .ne 8, 3), (708, .bipush (-5), 2), (710, .goto 5, 3), (713, .iload 15, 2), (715, .if_icmp .ne 41, 3)]
set_option maxRecDepth 100000 in
theorem dtL_law_k5 : allD cL_law tbL_law_k5 = true := by decide +kernel
theorem dL_law_596 : decode cL_law 596 = .ok (.iconst 3, 1) := allD_get dtL_law_k5 0 rfl
theorem dL_law_597 : decode cL_law 597 = .ok (.invokevirtual 17, 3) := allD_get dtL_law_k5 1 rfl
theorem dL_law_600 : decode cL_law 600 = .ok (.iload 11, 2) := allD_get dtL_law_k5 2 rfl
theorem dL_law_602 : decode cL_law 602 = .ok (.iadd, 1) := allD_get dtL_law_k5 3 rfl
theorem dL_law_603 : decode cL_law 603 = .ok (.sipush 1000, 3) := allD_get dtL_law_k5 4 rfl
theorem dL_law_606 : decode cL_law 606 = .ok (.if_icmp .gt 36, 3) := allD_get dtL_law_k5 5 rfl
theorem dL_law_609 : decode cL_law 609 = .ok (.aload_n 1, 1) := allD_get dtL_law_k5 6 rfl
theorem dL_law_610 : decode cL_law 610 = .ok (.iload 8, 2) := allD_get dtL_law_k5 7 rfl
theorem dL_law_612 : decode cL_law 612 = .ok (.iconst 4, 1) := allD_get dtL_law_k5 8 rfl
theorem dL_law_613 : decode cL_law 613 = .ok (.invokevirtual 17, 3) := allD_get dtL_law_k5 9 rfl
theorem dL_law_616 : decode cL_law 616 = .ok (.iload 12, 2) := allD_get dtL_law_k5 10 rfl
theorem dL_law_618 : decode cL_law 618 = .ok (.iadd, 1) := allD_get dtL_law_k5 11 rfl
theorem dL_law_619 : decode cL_law 619 = .ok (.ifCond .lt 23, 3) := allD_get dtL_law_k5 12 rfl
theorem dL_law_622 : decode cL_law 622 = .ok (.aload_n 1, 1) := allD_get dtL_law_k5 13 rfl
theorem dL_law_623 : decode cL_law 623 = .ok (.iload 8, 2) := allD_get dtL_law_k5 14 rfl
theorem dL_law_625 : decode cL_law 625 = .ok (.iconst 5, 1) := allD_get dtL_law_k5 15 rfl
theorem dL_law_626 : decode cL_law 626 = .ok (.invokevirtual 17, 3) := allD_get dtL_law_k5 16 rfl
theorem dL_law_629 : decode cL_law 629 = .ok (.iload 12, 2) := allD_get dtL_law_k5 17 rfl
theorem dL_law_631 : decode cL_law 631 = .ok (.iadd, 1) := allD_get dtL_law_k5 18 rfl
theorem dL_law_632 : decode cL_law 632 = .ok (.sipush 1000, 3) := allD_get dtL_law_k5 19 rfl
theorem dL_law_635 : decode cL_law 635 = .ok (.if_icmp .gt 7, 3) := allD_get dtL_law_k5 20 rfl
theorem dL_law_638 : decode cL_law 638 = .ok (.iconst 1, 1) := allD_get dtL_law_k5 21 rfl
theorem dL_law_639 : decode cL_law 639 = .ok (.goto 4, 3) := allD_get dtL_law_k5 22 rfl
theorem dL_law_642 : decode cL_law 642 = .ok (.iconst 0, 1) := allD_get dtL_law_k5 23 rfl
theorem dL_law_643 : decode cL_law 643 = .ok (.istore 13, 2) := allD_get dtL_law_k5 24 rfl
theorem dL_law_645 : decode cL_law 645 = .ok (.aload_n 1, 1) := allD_get dtL_law_k5 25 rfl
theorem dL_law_646 : decode cL_law 646 = .ok (.iload 8, 2) := allD_get dtL_law_k5 26 rfl
theorem dL_law_648 : decode cL_law 648 = .ok (.bipush 6, 2) := allD_get dtL_law_k5 27 rfl
theorem dL_law_650 : decode cL_law 650 = .ok (.invokevirtual 17, 3) := allD_get dtL_law_k5 28 rfl
theorem dL_law_653 : decode cL_law 653 = .ok (.istore 14, 2) := allD_get dtL_law_k5 29 rfl
theorem dL_law_655 : decode cL_law 655 = .ok (.aload_n 1, 1) := allD_get dtL_law_k5 30 rfl
theorem dL_law_656 : decode cL_law 656 = .ok (.iload 8, 2) := allD_get dtL_law_k5 31 rfl
theorem dL_law_658 : decode cL_law 658 = .ok (.iconst 1, 1) := allD_get dtL_law_k5 32 rfl
theorem dL_law_659 : decode cL_law 659 = .ok (.invokevirtual 17, 3) := allD_get dtL_law_k5 33 rfl
theorem dL_law_662 : decode cL_law 662 = .ok (.istore 15, 2) := allD_get dtL_law_k5 34 rfl
theorem dL_law_664 : decode cL_law 664 = .ok (.aload_n 1, 1) := allD_get dtL_law_k5 35 rfl
theorem dL_law_665 : decode cL_law 665 = .ok (.iload 8, 2) := allD_get dtL_law_k5 36 rfl
theorem dL_law_667 : decode cL_law 667 = .ok (.iconst 0, 1) := allD_get dtL_law_k5 37 rfl
theorem dL_law_668 : decode cL_law 668 = .ok (.iconst 0, 1) := allD_get dtL_law_k5 38 rfl
theorem dL_law_669 : decode cL_law 669 = .ok (.invokevirtual 23, 3) := allD_get dtL_law_k5 39 rfl
theorem dL_law_672 : decode cL_law 672 = .ok (.istore 16, 2) := allD_get dtL_law_k5 40 rfl
theorem dL_law_674 : decode cL_law 674 = .ok (.aload_n 1, 1) := allD_get dtL_law_k5 41 rfl
theorem dL_law_675 : decode cL_law 675 = .ok (.iload 8, 2) := allD_get dtL_law_k5 42 rfl
theorem dL_law_677 : decode cL_law 677 = .ok (.iload 11, 2) := allD_get dtL_law_k5 43 rfl
theorem dL_law_679 : decode cL_law 679 = .ok (.iload 12, 2) := allD_get dtL_law_k5 44 rfl
theorem dL_law_681 : decode cL_law 681 = .ok (.invokevirtual 101, 3) := allD_get dtL_law_k5 45 rfl
theorem dL_law_684 : decode cL_law 684 = .ok (.istore 17, 2) := allD_get dtL_law_k5 46 rfl
theorem dL_law_686 : decode cL_law 686 = .ok (.iload 17, 2) := allD_get dtL_law_k5 47 rfl
theorem dL_law_688 : decode cL_law 688 = .ok (.iload 13, 2) := allD_get dtL_law_k5 48 rfl
theorem dL_law_690 : decode cL_law 690 = .ok (.ifCond .ne 8, 3) := allD_get dtL_law_k5 49 rfl
theorem dL_law_693 : decode cL_law 693 = .ok (.bipush (-4), 2) := allD_get dtL_law_k5 50 rfl
theorem dL_law_695 : decode cL_law 695 = .ok (.goto 20, 3) := allD_get dtL_law_k5 51 rfl
theorem dL_law_698 : decode cL_law 698 = .ok (.iload 11, 2) := allD_get dtL_law_k5 52 rfl
theorem dL_law_700 : decode cL_law 700 = .ok (.ifCond .ne 13, 3) := allD_get dtL_law_k5 53 rfl
theorem dL_law_703 : decode cL_law 703 = .ok (.iload 12, 2) := allD_get dtL_law_k5 54 rfl
theorem dL_law_705 : decode cL_law 705 = .ok (.ifCond .ne 8, 3) := allD_get dtL_law_k5 55 rfl
theorem dL_law_708 : decode cL_law 708 = .ok (.bipush (-5), 2) := allD_get dtL_law_k5 56 rfl
theorem dL_law_710 : decode cL_law 710 = .ok (.goto 5, 3) := allD_get dtL_law_k5 57 rfl
theorem dL_law_713 : decode cL_law 713 = .ok (.iload 15, 2) := allD_get dtL_law_k5 58 rfl
theorem dL_law_715 : decode cL_law 715 = .ok (.if_icmp .ne 41, 3) := allD_get dtL_law_k5 59 rfl
def tbL_law_k6 : List (Nat × Instr × Nat) := [(718, .aload_n 1, 1), (719, .iload 8, 2), (721, .bipush 6, 2), (723, .invokevirtual 17, 3), (726, .iload 14, 2), (728, .if_icmp .ne 28, 3), (731, .aload_n 1, 1), (732, .iload 8, 2), (734, .iconst 0, 1), (735, .iconst 0, 1), (736, .invokevirtual 23, 3), (739, .iload 16, 2), (741, .iload 13, 2), (743, .ifCond .eq 8, 3), (746, .iload 11, 2), (748, .goto 4, 3), (751, .iconst 0, 1), (752, .iadd, 1), (753, .if_icmp .eq 5, 3), (756, .iconst 0, 1), (757, .ireturn, 1), (758, .goto 74, 3), (761, .iload 6, 2), (763, .ifCond .le 25, 3), (766, .iload 5, 2), (768, .iconst 3, 1), (769, .iand, 1), (770, .ifCond .le 18, 3), (773, .aload_n 1, 1), (774, .iload 8, 2), (776, .invokevirtual 107, 3), (779, .iload 6, 2), (781, .iconst 1, 1), (782, .isub, 1), (783, .if_icmp .eq 49, 3), (786, .iconst 0, 1), (787, .ireturn, 1), (788, .iload_n 2, 1), (789, .istore 11, 2), (791, .iload 5, 2), (793, .iconst 2, 1), (794, .ishr, 1), (795, .bipush 60, 2), (797, .invokestatic 35, 3), (800, .istore_n 2, 1), (801, .aload_n 1, 1), (802, .iload_n 2, 1), (803, .invokevirtual 110, 3), (806, .iload 11, 2), (808, .if_icmp .ne 22, 3), (811, .aload_n 1, 1), (812, .bipush 10, 2), (814, .invokevirtual 9, 3), (817, .iload_n 2, 1), (818, .if_icmp .ne 12, 3), (821, .aload_n 1, 1), (822, .iload 4, 2), (824, .invokestatic 127, 3), (827, .ifCond .ne 5, 3), (830, .iconst 0, 1)]
set_option maxRecDepth 100000 in
theorem dtL_law_k6 : allD cL_law tbL_law_k6 = true := by decide +kernel
theorem dL_law_718 : decode cL_law 718 = .ok (.aload_n 1, 1) := allD_get dtL_law_k6 0 rfl
theorem dL_law_719 : decode cL_law 719 = .ok (.iload 8, 2) := allD_get dtL_law_k6 1 rfl
theorem dL_law_721 : decode cL_law 721 = .ok (.bipush 6, 2) := allD_get dtL_law_k6 2 rfl
theorem dL_law_723 : decode cL_law 723 = .ok (.invokevirtual 17, 3) := allD_get dtL_law_k6 3 rfl
theorem dL_law_726 : decode cL_law 726 = .ok (.iload 14, 2) := allD_get dtL_law_k6 4 rfl
theorem dL_law_728 : decode cL_law 728 = .ok (.if_icmp .ne 28, 3) := allD_get dtL_law_k6 5 rfl
theorem dL_law_731 : decode cL_law 731 = .ok (.aload_n 1, 1) := allD_get dtL_law_k6 6 rfl
theorem dL_law_732 : decode cL_law 732 = .ok (.iload 8, 2) := allD_get dtL_law_k6 7 rfl
theorem dL_law_734 : decode cL_law 734 = .ok (.iconst 0, 1) := allD_get dtL_law_k6 8 rfl
theorem dL_law_735 : decode cL_law 735 = .ok (.iconst 0, 1) := allD_get dtL_law_k6 9 rfl
theorem dL_law_736 : decode cL_law 736 = .ok (.invokevirtual 23, 3) := allD_get dtL_law_k6 10 rfl
theorem dL_law_739 : decode cL_law 739 = .ok (.iload 16, 2) := allD_get dtL_law_k6 11 rfl
theorem dL_law_741 : decode cL_law 741 = .ok (.iload 13, 2) := allD_get dtL_law_k6 12 rfl
theorem dL_law_743 : decode cL_law 743 = .ok (.ifCond .eq 8, 3) := allD_get dtL_law_k6 13 rfl
theorem dL_law_746 : decode cL_law 746 = .ok (.iload 11, 2) := allD_get dtL_law_k6 14 rfl
theorem dL_law_748 : decode cL_law 748 = .ok (.goto 4, 3) := allD_get dtL_law_k6 15 rfl
theorem dL_law_751 : decode cL_law 751 = .ok (.iconst 0, 1) := allD_get dtL_law_k6 16 rfl
theorem dL_law_752 : decode cL_law 752 = .ok (.iadd, 1) := allD_get dtL_law_k6 17 rfl
theorem dL_law_753 : decode cL_law 753 = .ok (.if_icmp .eq 5, 3) := allD_get dtL_law_k6 18 rfl
theorem dL_law_756 : decode cL_law 756 = .ok (.iconst 0, 1) := allD_get dtL_law_k6 19 rfl
theorem dL_law_757 : decode cL_law 757 = .ok (.ireturn, 1) := allD_get dtL_law_k6 20 rfl
theorem dL_law_758 : decode cL_law 758 = .ok (.goto 74, 3) := allD_get dtL_law_k6 21 rfl
theorem dL_law_761 : decode cL_law 761 = .ok (.iload 6, 2) := allD_get dtL_law_k6 22 rfl
theorem dL_law_763 : decode cL_law 763 = .ok (.ifCond .le 25, 3) := allD_get dtL_law_k6 23 rfl
theorem dL_law_766 : decode cL_law 766 = .ok (.iload 5, 2) := allD_get dtL_law_k6 24 rfl
theorem dL_law_768 : decode cL_law 768 = .ok (.iconst 3, 1) := allD_get dtL_law_k6 25 rfl
theorem dL_law_769 : decode cL_law 769 = .ok (.iand, 1) := allD_get dtL_law_k6 26 rfl
theorem dL_law_770 : decode cL_law 770 = .ok (.ifCond .le 18, 3) := allD_get dtL_law_k6 27 rfl
theorem dL_law_773 : decode cL_law 773 = .ok (.aload_n 1, 1) := allD_get dtL_law_k6 28 rfl
theorem dL_law_774 : decode cL_law 774 = .ok (.iload 8, 2) := allD_get dtL_law_k6 29 rfl
theorem dL_law_776 : decode cL_law 776 = .ok (.invokevirtual 107, 3) := allD_get dtL_law_k6 30 rfl
theorem dL_law_779 : decode cL_law 779 = .ok (.iload 6, 2) := allD_get dtL_law_k6 31 rfl
theorem dL_law_781 : decode cL_law 781 = .ok (.iconst 1, 1) := allD_get dtL_law_k6 32 rfl
theorem dL_law_782 : decode cL_law 782 = .ok (.isub, 1) := allD_get dtL_law_k6 33 rfl
theorem dL_law_783 : decode cL_law 783 = .ok (.if_icmp .eq 49, 3) := allD_get dtL_law_k6 34 rfl
theorem dL_law_786 : decode cL_law 786 = .ok (.iconst 0, 1) := allD_get dtL_law_k6 35 rfl
theorem dL_law_787 : decode cL_law 787 = .ok (.ireturn, 1) := allD_get dtL_law_k6 36 rfl
theorem dL_law_788 : decode cL_law 788 = .ok (.iload_n 2, 1) := allD_get dtL_law_k6 37 rfl
theorem dL_law_789 : decode cL_law 789 = .ok (.istore 11, 2) := allD_get dtL_law_k6 38 rfl
theorem dL_law_791 : decode cL_law 791 = .ok (.iload 5, 2) := allD_get dtL_law_k6 39 rfl
theorem dL_law_793 : decode cL_law 793 = .ok (.iconst 2, 1) := allD_get dtL_law_k6 40 rfl
theorem dL_law_794 : decode cL_law 794 = .ok (.ishr, 1) := allD_get dtL_law_k6 41 rfl
theorem dL_law_795 : decode cL_law 795 = .ok (.bipush 60, 2) := allD_get dtL_law_k6 42 rfl
theorem dL_law_797 : decode cL_law 797 = .ok (.invokestatic 35, 3) := allD_get dtL_law_k6 43 rfl
theorem dL_law_800 : decode cL_law 800 = .ok (.istore_n 2, 1) := allD_get dtL_law_k6 44 rfl
theorem dL_law_801 : decode cL_law 801 = .ok (.aload_n 1, 1) := allD_get dtL_law_k6 45 rfl
theorem dL_law_802 : decode cL_law 802 = .ok (.iload_n 2, 1) := allD_get dtL_law_k6 46 rfl
theorem dL_law_803 : decode cL_law 803 = .ok (.invokevirtual 110, 3) := allD_get dtL_law_k6 47 rfl
theorem dL_law_806 : decode cL_law 806 = .ok (.iload 11, 2) := allD_get dtL_law_k6 48 rfl
theorem dL_law_808 : decode cL_law 808 = .ok (.if_icmp .ne 22, 3) := allD_get dtL_law_k6 49 rfl
theorem dL_law_811 : decode cL_law 811 = .ok (.aload_n 1, 1) := allD_get dtL_law_k6 50 rfl
theorem dL_law_812 : decode cL_law 812 = .ok (.bipush 10, 2) := allD_get dtL_law_k6 51 rfl
theorem dL_law_814 : decode cL_law 814 = .ok (.invokevirtual 9, 3) := allD_get dtL_law_k6 52 rfl
theorem dL_law_817 : decode cL_law 817 = .ok (.iload_n 2, 1) := allD_get dtL_law_k6 53 rfl
theorem dL_law_818 : decode cL_law 818 = .ok (.if_icmp .ne 12, 3) := allD_get dtL_law_k6 54 rfl
theorem dL_law_821 : decode cL_law 821 = .ok (.aload_n 1, 1) := allD_get dtL_law_k6 55 rfl
theorem dL_law_822 : decode cL_law 822 = .ok (.iload 4, 2) := allD_get dtL_law_k6 56 rfl
theorem dL_law_824 : decode cL_law 824 = .ok (.invokestatic 127, 3) := allD_get dtL_law_k6 57 rfl
theorem dL_law_827 : decode cL_law 827 = .ok (.ifCond .ne 5, 3) := allD_get dtL_law_k6 58 rfl
theorem dL_law_830 : decode cL_law 830 = .ok (.iconst 0, 1) := allD_get dtL_law_k6 59 rfl
def tbL_law_k7 : List (Nat × Instr × Nat) := [(831, .ireturn, 1), (832, .aload_n 1, 1), (833, .invokestatic 59, 3), (836, .lload 9, 2), (838, .lcmp, 1), (839, .ifCond .eq 42, 3), (842, .aload_n 1, 1), (843, .bipush 8, 2), (845, .invokevirtual 9, 3), (848, .ifCond .le 33, 3), (851, .iload_n 3, 1), (852, .iconst 1, 1), (853, .iand, 1), (854, .ifCond .ne 27, 3), (857, .iload 7, 2), (859, .iconst 5, 1), (860, .if_icmp .eq 21, 3), (863, .iload 7, 2), (865, .bipush 6, 2), (867, .if_icmp .eq 14, 3), (870, .aload_n 1, 1), (871, .lload 9, 2), (873, .invokestatic 131, 3), (876, .ifCond .ne 5, 3), (879, .iconst 0, 1), (880, .ireturn, 1), (881, .aload_n 1, 1), (882, .invokestatic 135, 3), (885, .ifCond .eq 22, 3), (888, .aload_n 1, 1), (889, .iload 4, 2), (891, .iload 5, 2), (893, .invokestatic 139, 3), (896, .ifCond .eq 11, 3), (899, .aload_n 1, 1), (900, .iload_n 2, 1), (901, .invokestatic 142, 3), (904, .ifCond .ne 5, 3), (907, .iconst 0, 1), (908, .ireturn, 1), (909, .iinc 3 1, 3), (912, .goto (-899), 3), (915, .aload_n 1, 1), (916, .invokestatic 145, 3), (919, .ireturn, 1)]
set_option maxRecDepth 100000 in
theorem dtL_law_k7 : allD cL_law tbL_law_k7 = true := by decide +kernel
theorem dL_law_831 : decode cL_law 831 = .ok (.ireturn, 1) := allD_get dtL_law_k7 0 rfl
theorem dL_law_832 : decode cL_law 832 = .ok (.aload_n 1, 1) := allD_get dtL_law_k7 1 rfl
theorem dL_law_833 : decode cL_law 833 = .ok (.invokestatic 59, 3) := allD_get dtL_law_k7 2 rfl
theorem dL_law_836 : decode cL_law 836 = .ok (.lload 9, 2) := allD_get dtL_law_k7 3 rfl
theorem dL_law_838 : decode cL_law 838 = .ok (.lcmp, 1) := allD_get dtL_law_k7 4 rfl
theorem dL_law_839 : decode cL_law 839 = .ok (.ifCond .eq 42, 3) := allD_get dtL_law_k7 5 rfl
theorem dL_law_842 : decode cL_law 842 = .ok (.aload_n 1, 1) := allD_get dtL_law_k7 6 rfl
theorem dL_law_843 : decode cL_law 843 = .ok (.bipush 8, 2) := allD_get dtL_law_k7 7 rfl
theorem dL_law_845 : decode cL_law 845 = .ok (.invokevirtual 9, 3) := allD_get dtL_law_k7 8 rfl
theorem dL_law_848 : decode cL_law 848 = .ok (.ifCond .le 33, 3) := allD_get dtL_law_k7 9 rfl
theorem dL_law_851 : decode cL_law 851 = .ok (.iload_n 3, 1) := allD_get dtL_law_k7 10 rfl
theorem dL_law_852 : decode cL_law 852 = .ok (.iconst 1, 1) := allD_get dtL_law_k7 11 rfl
theorem dL_law_853 : decode cL_law 853 = .ok (.iand, 1) := allD_get dtL_law_k7 12 rfl
theorem dL_law_854 : decode cL_law 854 = .ok (.ifCond .ne 27, 3) := allD_get dtL_law_k7 13 rfl
theorem dL_law_857 : decode cL_law 857 = .ok (.iload 7, 2) := allD_get dtL_law_k7 14 rfl
theorem dL_law_859 : decode cL_law 859 = .ok (.iconst 5, 1) := allD_get dtL_law_k7 15 rfl
theorem dL_law_860 : decode cL_law 860 = .ok (.if_icmp .eq 21, 3) := allD_get dtL_law_k7 16 rfl
theorem dL_law_863 : decode cL_law 863 = .ok (.iload 7, 2) := allD_get dtL_law_k7 17 rfl
theorem dL_law_865 : decode cL_law 865 = .ok (.bipush 6, 2) := allD_get dtL_law_k7 18 rfl
theorem dL_law_867 : decode cL_law 867 = .ok (.if_icmp .eq 14, 3) := allD_get dtL_law_k7 19 rfl
theorem dL_law_870 : decode cL_law 870 = .ok (.aload_n 1, 1) := allD_get dtL_law_k7 20 rfl
theorem dL_law_871 : decode cL_law 871 = .ok (.lload 9, 2) := allD_get dtL_law_k7 21 rfl
theorem dL_law_873 : decode cL_law 873 = .ok (.invokestatic 131, 3) := allD_get dtL_law_k7 22 rfl
theorem dL_law_876 : decode cL_law 876 = .ok (.ifCond .ne 5, 3) := allD_get dtL_law_k7 23 rfl
theorem dL_law_879 : decode cL_law 879 = .ok (.iconst 0, 1) := allD_get dtL_law_k7 24 rfl
theorem dL_law_880 : decode cL_law 880 = .ok (.ireturn, 1) := allD_get dtL_law_k7 25 rfl
theorem dL_law_881 : decode cL_law 881 = .ok (.aload_n 1, 1) := allD_get dtL_law_k7 26 rfl
theorem dL_law_882 : decode cL_law 882 = .ok (.invokestatic 135, 3) := allD_get dtL_law_k7 27 rfl
theorem dL_law_885 : decode cL_law 885 = .ok (.ifCond .eq 22, 3) := allD_get dtL_law_k7 28 rfl
theorem dL_law_888 : decode cL_law 888 = .ok (.aload_n 1, 1) := allD_get dtL_law_k7 29 rfl
theorem dL_law_889 : decode cL_law 889 = .ok (.iload 4, 2) := allD_get dtL_law_k7 30 rfl
theorem dL_law_891 : decode cL_law 891 = .ok (.iload 5, 2) := allD_get dtL_law_k7 31 rfl
theorem dL_law_893 : decode cL_law 893 = .ok (.invokestatic 139, 3) := allD_get dtL_law_k7 32 rfl
theorem dL_law_896 : decode cL_law 896 = .ok (.ifCond .eq 11, 3) := allD_get dtL_law_k7 33 rfl
theorem dL_law_899 : decode cL_law 899 = .ok (.aload_n 1, 1) := allD_get dtL_law_k7 34 rfl
theorem dL_law_900 : decode cL_law 900 = .ok (.iload_n 2, 1) := allD_get dtL_law_k7 35 rfl
theorem dL_law_901 : decode cL_law 901 = .ok (.invokestatic 142, 3) := allD_get dtL_law_k7 36 rfl
theorem dL_law_904 : decode cL_law 904 = .ok (.ifCond .ne 5, 3) := allD_get dtL_law_k7 37 rfl
theorem dL_law_907 : decode cL_law 907 = .ok (.iconst 0, 1) := allD_get dtL_law_k7 38 rfl
theorem dL_law_908 : decode cL_law 908 = .ok (.ireturn, 1) := allD_get dtL_law_k7 39 rfl
theorem dL_law_909 : decode cL_law 909 = .ok (.iinc 3 1, 3) := allD_get dtL_law_k7 40 rfl
theorem dL_law_912 : decode cL_law 912 = .ok (.goto (-899), 3) := allD_get dtL_law_k7 41 rfl
theorem dL_law_915 : decode cL_law 915 = .ok (.aload_n 1, 1) := allD_get dtL_law_k7 42 rfl
theorem dL_law_916 : decode cL_law 916 = .ok (.invokestatic 145, 3) := allD_get dtL_law_k7 43 rfl
theorem dL_law_919 : decode cL_law 919 = .ok (.ireturn, 1) := allD_get dtL_law_k7 44 rfl
