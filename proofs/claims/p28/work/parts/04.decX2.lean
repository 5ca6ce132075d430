/-! the instructions of X2's methods, by program -/
def tbX2_init : List (Nat × Instr × Nat) := [(0, .aload_n 0, 1), (1, .invokespecial 3, 3), (4, .aload_n 0, 1), (5, .sipush 800, 3), (8, .newarray .int, 2), (10, .putfield 9, 3), (13, .return_, 1)]
set_option maxRecDepth 100000 in
theorem dtX2_init : allD cX2_init tbX2_init = true := by decide +kernel
theorem dX2_init_0 : decode cX2_init 0 = .ok (.aload_n 0, 1) := allD_get dtX2_init 0 rfl
theorem dX2_init_1 : decode cX2_init 1 = .ok (.invokespecial 3, 3) := allD_get dtX2_init 1 rfl
theorem dX2_init_4 : decode cX2_init 4 = .ok (.aload_n 0, 1) := allD_get dtX2_init 2 rfl
theorem dX2_init_5 : decode cX2_init 5 = .ok (.sipush 800, 3) := allD_get dtX2_init 3 rfl
theorem dX2_init_8 : decode cX2_init 8 = .ok (.newarray .int, 2) := allD_get dtX2_init 4 rfl
theorem dX2_init_10 : decode cX2_init 10 = .ok (.putfield 9, 3) := allD_get dtX2_init 5 rfl
theorem dX2_init_13 : decode cX2_init 13 = .ok (.return_, 1) := allD_get dtX2_init 6 rfl
def tbX2_empty : List (Nat × Instr × Nat) := [(0, .aload_n 0, 1), (1, .iconst 0, 1), (2, .putfield 15, 3), (5, .return_, 1)]
set_option maxRecDepth 100000 in
theorem dtX2_empty : allD cX2_empty tbX2_empty = true := by decide +kernel
theorem dX2_empty_0 : decode cX2_empty 0 = .ok (.aload_n 0, 1) := allD_get dtX2_empty 0 rfl
theorem dX2_empty_1 : decode cX2_empty 1 = .ok (.iconst 0, 1) := allD_get dtX2_empty 1 rfl
theorem dX2_empty_2 : decode cX2_empty 2 = .ok (.putfield 15, 3) := allD_get dtX2_empty 2 rfl
theorem dX2_empty_5 : decode cX2_empty 5 = .ok (.return_, 1) := allD_get dtX2_empty 3 rfl
def tbX2_copy : List (Nat × Instr × Nat) := [(0, .aload_n 0, 1), (1, .aload_n 1, 1), (2, .getfield 15, 3), (5, .putfield 15, 3), (8, .aload_n 1, 1), (9, .getfield 9, 3), (12, .iconst 0, 1), (13, .aload_n 0, 1), (14, .getfield 9, 3), (17, .iconst 0, 1), (18, .sipush 800, 3), (21, .invokestatic 19, 3), (24, .return_, 1)]
set_option maxRecDepth 100000 in
theorem dtX2_copy : allD cX2_copy tbX2_copy = true := by decide +kernel
theorem dX2_copy_0 : decode cX2_copy 0 = .ok (.aload_n 0, 1) := allD_get dtX2_copy 0 rfl
theorem dX2_copy_1 : decode cX2_copy 1 = .ok (.aload_n 1, 1) := allD_get dtX2_copy 1 rfl
theorem dX2_copy_2 : decode cX2_copy 2 = .ok (.getfield 15, 3) := allD_get dtX2_copy 2 rfl
theorem dX2_copy_5 : decode cX2_copy 5 = .ok (.putfield 15, 3) := allD_get dtX2_copy 3 rfl
theorem dX2_copy_8 : decode cX2_copy 8 = .ok (.aload_n 1, 1) := allD_get dtX2_copy 4 rfl
theorem dX2_copy_9 : decode cX2_copy 9 = .ok (.getfield 9, 3) := allD_get dtX2_copy 5 rfl
theorem dX2_copy_12 : decode cX2_copy 12 = .ok (.iconst 0, 1) := allD_get dtX2_copy 6 rfl
theorem dX2_copy_13 : decode cX2_copy 13 = .ok (.aload_n 0, 1) := allD_get dtX2_copy 7 rfl
theorem dX2_copy_14 : decode cX2_copy 14 = .ok (.getfield 9, 3) := allD_get dtX2_copy 8 rfl
theorem dX2_copy_17 : decode cX2_copy 17 = .ok (.iconst 0, 1) := allD_get dtX2_copy 9 rfl
theorem dX2_copy_18 : decode cX2_copy 18 = .ok (.sipush 800, 3) := allD_get dtX2_copy 10 rfl
theorem dX2_copy_21 : decode cX2_copy 21 = .ok (.invokestatic 19, 3) := allD_get dtX2_copy 11 rfl
theorem dX2_copy_24 : decode cX2_copy 24 = .ok (.return_, 1) := allD_get dtX2_copy 12 rfl
def tbX2_has : List (Nat × Instr × Nat) := [(0, .iload_n 1, 1), (1, .ifCond .lt 15, 3), (4, .iload_n 1, 1), (5, .aload_n 0, 1), (6, .getfield 15, 3), (9, .if_icmp .ge 7, 3), (12, .iconst 1, 1), (13, .goto 4, 3), (16, .iconst 0, 1), (17, .ireturn, 1)]
set_option maxRecDepth 100000 in
theorem dtX2_has : allD cX2_has tbX2_has = true := by decide +kernel
theorem dX2_has_0 : decode cX2_has 0 = .ok (.iload_n 1, 1) := allD_get dtX2_has 0 rfl
theorem dX2_has_1 : decode cX2_has 1 = .ok (.ifCond .lt 15, 3) := allD_get dtX2_has 1 rfl
theorem dX2_has_4 : decode cX2_has 4 = .ok (.iload_n 1, 1) := allD_get dtX2_has 2 rfl
theorem dX2_has_5 : decode cX2_has 5 = .ok (.aload_n 0, 1) := allD_get dtX2_has 3 rfl
theorem dX2_has_6 : decode cX2_has 6 = .ok (.getfield 15, 3) := allD_get dtX2_has 4 rfl
theorem dX2_has_9 : decode cX2_has 9 = .ok (.if_icmp .ge 7, 3) := allD_get dtX2_has 5 rfl
theorem dX2_has_12 : decode cX2_has 12 = .ok (.iconst 1, 1) := allD_get dtX2_has 6 rfl
theorem dX2_has_13 : decode cX2_has 13 = .ok (.goto 4, 3) := allD_get dtX2_has 7 rfl
theorem dX2_has_16 : decode cX2_has 16 = .ok (.iconst 0, 1) := allD_get dtX2_has 8 rfl
theorem dX2_has_17 : decode cX2_has 17 = .ok (.ireturn, 1) := allD_get dtX2_has 9 rfl
def tbX2_colorOf : List (Nat × Instr × Nat) := [(0, .aload_n 0, 1), (1, .getfield 9, 3), (4, .iload_n 1, 1), (5, .bipush 50, 2), (7, .imul, 1), (8, .iconst 0, 1), (9, .iadd, 1), (10, .iaload, 1), (11, .ireturn, 1)]
set_option maxRecDepth 100000 in
theorem dtX2_colorOf : allD cX2_colorOf tbX2_colorOf = true := by decide +kernel
theorem dX2_colorOf_0 : decode cX2_colorOf 0 = .ok (.aload_n 0, 1) := allD_get dtX2_colorOf 0 rfl
theorem dX2_colorOf_1 : decode cX2_colorOf 1 = .ok (.getfield 9, 3) := allD_get dtX2_colorOf 1 rfl
theorem dX2_colorOf_4 : decode cX2_colorOf 4 = .ok (.iload_n 1, 1) := allD_get dtX2_colorOf 2 rfl
theorem dX2_colorOf_5 : decode cX2_colorOf 5 = .ok (.bipush 50, 2) := allD_get dtX2_colorOf 3 rfl
theorem dX2_colorOf_7 : decode cX2_colorOf 7 = .ok (.imul, 1) := allD_get dtX2_colorOf 4 rfl
theorem dX2_colorOf_8 : decode cX2_colorOf 8 = .ok (.iconst 0, 1) := allD_get dtX2_colorOf 5 rfl
theorem dX2_colorOf_9 : decode cX2_colorOf 9 = .ok (.iadd, 1) := allD_get dtX2_colorOf 6 rfl
theorem dX2_colorOf_10 : decode cX2_colorOf 10 = .ok (.iaload, 1) := allD_get dtX2_colorOf 7 rfl
theorem dX2_colorOf_11 : decode cX2_colorOf 11 = .ok (.ireturn, 1) := allD_get dtX2_colorOf 8 rfl
def tbX2_size : List (Nat × Instr × Nat) := [(0, .aload_n 0, 1), (1, .getfield 9, 3), (4, .iload_n 1, 1), (5, .bipush 50, 2), (7, .imul, 1), (8, .iconst 1, 1), (9, .iadd, 1), (10, .iaload, 1), (11, .ireturn, 1)]
set_option maxRecDepth 100000 in
theorem dtX2_size : allD cX2_size tbX2_size = true := by decide +kernel
theorem dX2_size_0 : decode cX2_size 0 = .ok (.aload_n 0, 1) := allD_get dtX2_size 0 rfl
theorem dX2_size_1 : decode cX2_size 1 = .ok (.getfield 9, 3) := allD_get dtX2_size 1 rfl
theorem dX2_size_4 : decode cX2_size 4 = .ok (.iload_n 1, 1) := allD_get dtX2_size 2 rfl
theorem dX2_size_5 : decode cX2_size 5 = .ok (.bipush 50, 2) := allD_get dtX2_size 3 rfl
theorem dX2_size_7 : decode cX2_size 7 = .ok (.imul, 1) := allD_get dtX2_size 4 rfl
theorem dX2_size_8 : decode cX2_size 8 = .ok (.iconst 1, 1) := allD_get dtX2_size 5 rfl
theorem dX2_size_9 : decode cX2_size 9 = .ok (.iadd, 1) := allD_get dtX2_size 6 rfl
theorem dX2_size_10 : decode cX2_size 10 = .ok (.iaload, 1) := allD_get dtX2_size 7 rfl
theorem dX2_size_11 : decode cX2_size 11 = .ok (.ireturn, 1) := allD_get dtX2_size 8 rfl
def tbX2_x : List (Nat × Instr × Nat) := [(0, .aload_n 0, 1), (1, .getfield 9, 3), (4, .iload_n 1, 1), (5, .bipush 50, 2), (7, .imul, 1), (8, .iconst 2, 1), (9, .iadd, 1), (10, .iload_n 2, 1), (11, .iadd, 1), (12, .iaload, 1), (13, .ireturn, 1)]
set_option maxRecDepth 100000 in
theorem dtX2_x : allD cX2_x tbX2_x = true := by decide +kernel
theorem dX2_x_0 : decode cX2_x 0 = .ok (.aload_n 0, 1) := allD_get dtX2_x 0 rfl
theorem dX2_x_1 : decode cX2_x 1 = .ok (.getfield 9, 3) := allD_get dtX2_x 1 rfl
theorem dX2_x_4 : decode cX2_x 4 = .ok (.iload_n 1, 1) := allD_get dtX2_x 2 rfl
theorem dX2_x_5 : decode cX2_x 5 = .ok (.bipush 50, 2) := allD_get dtX2_x 3 rfl
theorem dX2_x_7 : decode cX2_x 7 = .ok (.imul, 1) := allD_get dtX2_x 4 rfl
theorem dX2_x_8 : decode cX2_x 8 = .ok (.iconst 2, 1) := allD_get dtX2_x 5 rfl
theorem dX2_x_9 : decode cX2_x 9 = .ok (.iadd, 1) := allD_get dtX2_x 6 rfl
theorem dX2_x_10 : decode cX2_x 10 = .ok (.iload_n 2, 1) := allD_get dtX2_x 7 rfl
theorem dX2_x_11 : decode cX2_x 11 = .ok (.iadd, 1) := allD_get dtX2_x 8 rfl
theorem dX2_x_12 : decode cX2_x 12 = .ok (.iaload, 1) := allD_get dtX2_x 9 rfl
theorem dX2_x_13 : decode cX2_x 13 = .ok (.ireturn, 1) := allD_get dtX2_x 10 rfl
def tbX2_y : List (Nat × Instr × Nat) := [(0, .aload_n 0, 1), (1, .getfield 9, 3), (4, .iload_n 1, 1), (5, .bipush 50, 2), (7, .imul, 1), (8, .bipush 26, 2), (10, .iadd, 1), (11, .iload_n 2, 1), (12, .iadd, 1), (13, .iaload, 1), (14, .ireturn, 1)]
set_option maxRecDepth 100000 in
theorem dtX2_y : allD cX2_y tbX2_y = true := by decide +kernel
theorem dX2_y_0 : decode cX2_y 0 = .ok (.aload_n 0, 1) := allD_get dtX2_y 0 rfl
theorem dX2_y_1 : decode cX2_y 1 = .ok (.getfield 9, 3) := allD_get dtX2_y 1 rfl
theorem dX2_y_4 : decode cX2_y 4 = .ok (.iload_n 1, 1) := allD_get dtX2_y 2 rfl
theorem dX2_y_5 : decode cX2_y 5 = .ok (.bipush 50, 2) := allD_get dtX2_y 3 rfl
theorem dX2_y_7 : decode cX2_y 7 = .ok (.imul, 1) := allD_get dtX2_y 4 rfl
theorem dX2_y_8 : decode cX2_y 8 = .ok (.bipush 26, 2) := allD_get dtX2_y 5 rfl
theorem dX2_y_10 : decode cX2_y 10 = .ok (.iadd, 1) := allD_get dtX2_y 6 rfl
theorem dX2_y_11 : decode cX2_y 11 = .ok (.iload_n 2, 1) := allD_get dtX2_y 7 rfl
theorem dX2_y_12 : decode cX2_y 12 = .ok (.iadd, 1) := allD_get dtX2_y 8 rfl
theorem dX2_y_13 : decode cX2_y 13 = .ok (.iaload, 1) := allD_get dtX2_y 9 rfl
theorem dX2_y_14 : decode cX2_y 14 = .ok (.ireturn, 1) := allD_get dtX2_y 10 rfl
def tbX2_setColor : List (Nat × Instr × Nat) := [(0, .aload_n 0, 1), (1, .getfield 9, 3), (4, .iload_n 1, 1), (5, .bipush 50, 2), (7, .imul, 1), (8, .iconst 0, 1), (9, .iadd, 1), (10, .iload_n 2, 1), (11, .iastore, 1), (12, .return_, 1)]
set_option maxRecDepth 100000 in
theorem dtX2_setColor : allD cX2_setColor tbX2_setColor = true := by decide +kernel
theorem dX2_setColor_0 : decode cX2_setColor 0 = .ok (.aload_n 0, 1) := allD_get dtX2_setColor 0 rfl
theorem dX2_setColor_1 : decode cX2_setColor 1 = .ok (.getfield 9, 3) := allD_get dtX2_setColor 1 rfl
theorem dX2_setColor_4 : decode cX2_setColor 4 = .ok (.iload_n 1, 1) := allD_get dtX2_setColor 2 rfl
theorem dX2_setColor_5 : decode cX2_setColor 5 = .ok (.bipush 50, 2) := allD_get dtX2_setColor 3 rfl
theorem dX2_setColor_7 : decode cX2_setColor 7 = .ok (.imul, 1) := allD_get dtX2_setColor 4 rfl
theorem dX2_setColor_8 : decode cX2_setColor 8 = .ok (.iconst 0, 1) := allD_get dtX2_setColor 5 rfl
theorem dX2_setColor_9 : decode cX2_setColor 9 = .ok (.iadd, 1) := allD_get dtX2_setColor 6 rfl
theorem dX2_setColor_10 : decode cX2_setColor 10 = .ok (.iload_n 2, 1) := allD_get dtX2_setColor 7 rfl
theorem dX2_setColor_11 : decode cX2_setColor 11 = .ok (.iastore, 1) := allD_get dtX2_setColor 8 rfl
theorem dX2_setColor_12 : decode cX2_setColor 12 = .ok (.return_, 1) := allD_get dtX2_setColor 9 rfl
def tbX2_set : List (Nat × Instr × Nat) := [(0, .iload_n 1, 1), (1, .bipush 50, 2), (3, .imul, 1), (4, .istore 4, 2), (6, .aload_n 0, 1), (7, .getfield 9, 3), (10, .iload 4, 2), (12, .iconst 0, 1), (13, .iadd, 1), (14, .iload_n 2, 1), (15, .iastore, 1), (16, .aload_n 0, 1), (17, .getfield 9, 3), (20, .iload 4, 2), (22, .iconst 1, 1), (23, .iadd, 1), (24, .aload_n 3, 1), (25, .getfield 25, 3), (28, .iastore, 1), (29, .aload_n 3, 1), (30, .getfield 30, 3), (33, .iconst 0, 1), (34, .aload_n 0, 1), (35, .getfield 9, 3), (38, .iload 4, 2), (40, .iconst 2, 1), (41, .iadd, 1), (42, .bipush 24, 2), (44, .invokestatic 19, 3), (47, .aload_n 3, 1), (48, .getfield 33, 3), (51, .iconst 0, 1), (52, .aload_n 0, 1), (53, .getfield 9, 3), (56, .iload 4, 2), (58, .bipush 26, 2), (60, .iadd, 1), (61, .bipush 24, 2), (63, .invokestatic 19, 3), (66, .return_, 1)]
set_option maxRecDepth 100000 in
theorem dtX2_set : allD cX2_set tbX2_set = true := by decide +kernel
theorem dX2_set_0 : decode cX2_set 0 = .ok (.iload_n 1, 1) := allD_get dtX2_set 0 rfl
theorem dX2_set_1 : decode cX2_set 1 = .ok (.bipush 50, 2) := allD_get dtX2_set 1 rfl
theorem dX2_set_3 : decode cX2_set 3 = .ok (.imul, 1) := allD_get dtX2_set 2 rfl
theorem dX2_set_4 : decode cX2_set 4 = .ok (.istore 4, 2) := allD_get dtX2_set 3 rfl
theorem dX2_set_6 : decode cX2_set 6 = .ok (.aload_n 0, 1) := allD_get dtX2_set 4 rfl
theorem dX2_set_7 : decode cX2_set 7 = .ok (.getfield 9, 3) := allD_get dtX2_set 5 rfl
theorem dX2_set_10 : decode cX2_set 10 = .ok (.iload 4, 2) := allD_get dtX2_set 6 rfl
theorem dX2_set_12 : decode cX2_set 12 = .ok (.iconst 0, 1) := allD_get dtX2_set 7 rfl
theorem dX2_set_13 : decode cX2_set 13 = .ok (.iadd, 1) := allD_get dtX2_set 8 rfl
theorem dX2_set_14 : decode cX2_set 14 = .ok (.iload_n 2, 1) := allD_get dtX2_set 9 rfl
theorem dX2_set_15 : decode cX2_set 15 = .ok (.iastore, 1) := allD_get dtX2_set 10 rfl
theorem dX2_set_16 : decode cX2_set 16 = .ok (.aload_n 0, 1) := allD_get dtX2_set 11 rfl
theorem dX2_set_17 : decode cX2_set 17 = .ok (.getfield 9, 3) := allD_get dtX2_set 12 rfl
theorem dX2_set_20 : decode cX2_set 20 = .ok (.iload 4, 2) := allD_get dtX2_set 13 rfl
theorem dX2_set_22 : decode cX2_set 22 = .ok (.iconst 1, 1) := allD_get dtX2_set 14 rfl
theorem dX2_set_23 : decode cX2_set 23 = .ok (.iadd, 1) := allD_get dtX2_set 15 rfl
theorem dX2_set_24 : decode cX2_set 24 = .ok (.aload_n 3, 1) := allD_get dtX2_set 16 rfl
theorem dX2_set_25 : decode cX2_set 25 = .ok (.getfield 25, 3) := allD_get dtX2_set 17 rfl
theorem dX2_set_28 : decode cX2_set 28 = .ok (.iastore, 1) := allD_get dtX2_set 18 rfl
theorem dX2_set_29 : decode cX2_set 29 = .ok (.aload_n 3, 1) := allD_get dtX2_set 19 rfl
theorem dX2_set_30 : decode cX2_set 30 = .ok (.getfield 30, 3) := allD_get dtX2_set 20 rfl
theorem dX2_set_33 : decode cX2_set 33 = .ok (.iconst 0, 1) := allD_get dtX2_set 21 rfl
theorem dX2_set_34 : decode cX2_set 34 = .ok (.aload_n 0, 1) := allD_get dtX2_set 22 rfl
theorem dX2_set_35 : decode cX2_set 35 = .ok (.getfield 9, 3) := allD_get dtX2_set 23 rfl
theorem dX2_set_38 : decode cX2_set 38 = .ok (.iload 4, 2) := allD_get dtX2_set 24 rfl
theorem dX2_set_40 : decode cX2_set 40 = .ok (.iconst 2, 1) := allD_get dtX2_set 25 rfl
theorem dX2_set_41 : decode cX2_set 41 = .ok (.iadd, 1) := allD_get dtX2_set 26 rfl
theorem dX2_set_42 : decode cX2_set 42 = .ok (.bipush 24, 2) := allD_get dtX2_set 27 rfl
theorem dX2_set_44 : decode cX2_set 44 = .ok (.invokestatic 19, 3) := allD_get dtX2_set 28 rfl
theorem dX2_set_47 : decode cX2_set 47 = .ok (.aload_n 3, 1) := allD_get dtX2_set 29 rfl
theorem dX2_set_48 : decode cX2_set 48 = .ok (.getfield 33, 3) := allD_get dtX2_set 30 rfl
theorem dX2_set_51 : decode cX2_set 51 = .ok (.iconst 0, 1) := allD_get dtX2_set 31 rfl
theorem dX2_set_52 : decode cX2_set 52 = .ok (.aload_n 0, 1) := allD_get dtX2_set 32 rfl
theorem dX2_set_53 : decode cX2_set 53 = .ok (.getfield 9, 3) := allD_get dtX2_set 33 rfl
theorem dX2_set_56 : decode cX2_set 56 = .ok (.iload 4, 2) := allD_get dtX2_set 34 rfl
theorem dX2_set_58 : decode cX2_set 58 = .ok (.bipush 26, 2) := allD_get dtX2_set 35 rfl
theorem dX2_set_60 : decode cX2_set 60 = .ok (.iadd, 1) := allD_get dtX2_set 36 rfl
theorem dX2_set_61 : decode cX2_set 61 = .ok (.bipush 24, 2) := allD_get dtX2_set 37 rfl
theorem dX2_set_63 : decode cX2_set 63 = .ok (.invokestatic 19, 3) := allD_get dtX2_set 38 rfl
theorem dX2_set_66 : decode cX2_set 66 = .ok (.return_, 1) := allD_get dtX2_set 39 rfl
def tbX2_append : List (Nat × Instr × Nat) := [(0, .aload_n 0, 1), (1, .getfield 15, 3), (4, .bipush 16, 2), (6, .if_icmp .lt 5, 3), (9, .iconst 0, 1), (10, .ireturn, 1), (11, .aload_n 0, 1), (12, .aload_n 0, 1), (13, .getfield 15, 3), (16, .iload_n 1, 1), (17, .aload_n 2, 1), (18, .invokevirtual 36, 3), (21, .aload_n 0, 1), (22, .dup, 1), (23, .getfield 15, 3), (26, .iconst 1, 1), (27, .iadd, 1), (28, .putfield 15, 3), (31, .iconst 1, 1), (32, .ireturn, 1)]
set_option maxRecDepth 100000 in
theorem dtX2_append : allD cX2_append tbX2_append = true := by decide +kernel
theorem dX2_append_0 : decode cX2_append 0 = .ok (.aload_n 0, 1) := allD_get dtX2_append 0 rfl
theorem dX2_append_1 : decode cX2_append 1 = .ok (.getfield 15, 3) := allD_get dtX2_append 1 rfl
theorem dX2_append_4 : decode cX2_append 4 = .ok (.bipush 16, 2) := allD_get dtX2_append 2 rfl
theorem dX2_append_6 : decode cX2_append 6 = .ok (.if_icmp .lt 5, 3) := allD_get dtX2_append 3 rfl
theorem dX2_append_9 : decode cX2_append 9 = .ok (.iconst 0, 1) := allD_get dtX2_append 4 rfl
theorem dX2_append_10 : decode cX2_append 10 = .ok (.ireturn, 1) := allD_get dtX2_append 5 rfl
theorem dX2_append_11 : decode cX2_append 11 = .ok (.aload_n 0, 1) := allD_get dtX2_append 6 rfl
theorem dX2_append_12 : decode cX2_append 12 = .ok (.aload_n 0, 1) := allD_get dtX2_append 7 rfl
theorem dX2_append_13 : decode cX2_append 13 = .ok (.getfield 15, 3) := allD_get dtX2_append 8 rfl
theorem dX2_append_16 : decode cX2_append 16 = .ok (.iload_n 1, 1) := allD_get dtX2_append 9 rfl
theorem dX2_append_17 : decode cX2_append 17 = .ok (.aload_n 2, 1) := allD_get dtX2_append 10 rfl
theorem dX2_append_18 : decode cX2_append 18 = .ok (.invokevirtual 36, 3) := allD_get dtX2_append 11 rfl
theorem dX2_append_21 : decode cX2_append 21 = .ok (.aload_n 0, 1) := allD_get dtX2_append 12 rfl
theorem dX2_append_22 : decode cX2_append 22 = .ok (.dup, 1) := allD_get dtX2_append 13 rfl
theorem dX2_append_23 : decode cX2_append 23 = .ok (.getfield 15, 3) := allD_get dtX2_append 14 rfl
theorem dX2_append_26 : decode cX2_append 26 = .ok (.iconst 1, 1) := allD_get dtX2_append 15 rfl
theorem dX2_append_27 : decode cX2_append 27 = .ok (.iadd, 1) := allD_get dtX2_append 16 rfl
theorem dX2_append_28 : decode cX2_append 28 = .ok (.putfield 15, 3) := allD_get dtX2_append 17 rfl
theorem dX2_append_31 : decode cX2_append 31 = .ok (.iconst 1, 1) := allD_get dtX2_append 18 rfl
theorem dX2_append_32 : decode cX2_append 32 = .ok (.ireturn, 1) := allD_get dtX2_append 19 rfl
def tbX2_drop : List (Nat × Instr × Nat) := [(0, .aload_n 0, 1), (1, .iload_n 1, 1), (2, .invokevirtual 40, 3), (5, .ifCond .eq 47, 3), (8, .aload_n 0, 1), (9, .getfield 15, 3), (12, .iload_n 1, 1), (13, .isub, 1), (14, .iconst 1, 1), (15, .isub, 1), (16, .istore_n 2, 1), (17, .aload_n 0, 1), (18, .getfield 9, 3), (21, .iload_n 1, 1), (22, .iconst 1, 1), (23, .iadd, 1), (24, .bipush 50, 2), (26, .imul, 1), (27, .aload_n 0, 1), (28, .getfield 9, 3), (31, .iload_n 1, 1), (32, .bipush 50, 2), (34, .imul, 1), (35, .iload_n 2, 1), (36, .bipush 50, 2), (38, .imul, 1), (39, .invokestatic 19, 3), (42, .aload_n 0, 1), (43, .dup, 1), (44, .getfield 15, 3), (47, .iconst 1, 1), (48, .isub, 1), (49, .putfield 15, 3), (52, .return_, 1)]
set_option maxRecDepth 100000 in
theorem dtX2_drop : allD cX2_drop tbX2_drop = true := by decide +kernel
theorem dX2_drop_0 : decode cX2_drop 0 = .ok (.aload_n 0, 1) := allD_get dtX2_drop 0 rfl
theorem dX2_drop_1 : decode cX2_drop 1 = .ok (.iload_n 1, 1) := allD_get dtX2_drop 1 rfl
theorem dX2_drop_2 : decode cX2_drop 2 = .ok (.invokevirtual 40, 3) := allD_get dtX2_drop 2 rfl
theorem dX2_drop_5 : decode cX2_drop 5 = .ok (.ifCond .eq 47, 3) := allD_get dtX2_drop 3 rfl
theorem dX2_drop_8 : decode cX2_drop 8 = .ok (.aload_n 0, 1) := allD_get dtX2_drop 4 rfl
theorem dX2_drop_9 : decode cX2_drop 9 = .ok (.getfield 15, 3) := allD_get dtX2_drop 5 rfl
theorem dX2_drop_12 : decode cX2_drop 12 = .ok (.iload_n 1, 1) := allD_get dtX2_drop 6 rfl
theorem dX2_drop_13 : decode cX2_drop 13 = .ok (.isub, 1) := allD_get dtX2_drop 7 rfl
theorem dX2_drop_14 : decode cX2_drop 14 = .ok (.iconst 1, 1) := allD_get dtX2_drop 8 rfl
theorem dX2_drop_15 : decode cX2_drop 15 = .ok (.isub, 1) := allD_get dtX2_drop 9 rfl
theorem dX2_drop_16 : decode cX2_drop 16 = .ok (.istore_n 2, 1) := allD_get dtX2_drop 10 rfl
theorem dX2_drop_17 : decode cX2_drop 17 = .ok (.aload_n 0, 1) := allD_get dtX2_drop 11 rfl
theorem dX2_drop_18 : decode cX2_drop 18 = .ok (.getfield 9, 3) := allD_get dtX2_drop 12 rfl
theorem dX2_drop_21 : decode cX2_drop 21 = .ok (.iload_n 1, 1) := allD_get dtX2_drop 13 rfl
theorem dX2_drop_22 : decode cX2_drop 22 = .ok (.iconst 1, 1) := allD_get dtX2_drop 14 rfl
theorem dX2_drop_23 : decode cX2_drop 23 = .ok (.iadd, 1) := allD_get dtX2_drop 15 rfl
theorem dX2_drop_24 : decode cX2_drop 24 = .ok (.bipush 50, 2) := allD_get dtX2_drop 16 rfl
theorem dX2_drop_26 : decode cX2_drop 26 = .ok (.imul, 1) := allD_get dtX2_drop 17 rfl
theorem dX2_drop_27 : decode cX2_drop 27 = .ok (.aload_n 0, 1) := allD_get dtX2_drop 18 rfl
theorem dX2_drop_28 : decode cX2_drop 28 = .ok (.getfield 9, 3) := allD_get dtX2_drop 19 rfl
theorem dX2_drop_31 : decode cX2_drop 31 = .ok (.iload_n 1, 1) := allD_get dtX2_drop 20 rfl
theorem dX2_drop_32 : decode cX2_drop 32 = .ok (.bipush 50, 2) := allD_get dtX2_drop 21 rfl
theorem dX2_drop_34 : decode cX2_drop 34 = .ok (.imul, 1) := allD_get dtX2_drop 22 rfl
theorem dX2_drop_35 : decode cX2_drop 35 = .ok (.iload_n 2, 1) := allD_get dtX2_drop 23 rfl
theorem dX2_drop_36 : decode cX2_drop 36 = .ok (.bipush 50, 2) := allD_get dtX2_drop 24 rfl
theorem dX2_drop_38 : decode cX2_drop 38 = .ok (.imul, 1) := allD_get dtX2_drop 25 rfl
theorem dX2_drop_39 : decode cX2_drop 39 = .ok (.invokestatic 19, 3) := allD_get dtX2_drop 26 rfl
theorem dX2_drop_42 : decode cX2_drop 42 = .ok (.aload_n 0, 1) := allD_get dtX2_drop 27 rfl
theorem dX2_drop_43 : decode cX2_drop 43 = .ok (.dup, 1) := allD_get dtX2_drop 28 rfl
theorem dX2_drop_44 : decode cX2_drop 44 = .ok (.getfield 15, 3) := allD_get dtX2_drop 29 rfl
theorem dX2_drop_47 : decode cX2_drop 47 = .ok (.iconst 1, 1) := allD_get dtX2_drop 30 rfl
theorem dX2_drop_48 : decode cX2_drop 48 = .ok (.isub, 1) := allD_get dtX2_drop 31 rfl
theorem dX2_drop_49 : decode cX2_drop 49 = .ok (.putfield 15, 3) := allD_get dtX2_drop 32 rfl
theorem dX2_drop_52 : decode cX2_drop 52 = .ok (.return_, 1) := allD_get dtX2_drop 33 rfl
def tbX2_isSame : List (Nat × Instr × Nat) := [(0, .aload_n 0, 1), (1, .iload_n 1, 1), (2, .invokevirtual 44, 3), (5, .aload_n 2, 1), (6, .getfield 25, 3), (9, .if_icmp .eq 5, 3), (12, .iconst 0, 1), (13, .ireturn, 1), (14, .iconst 0, 1), (15, .istore_n 3, 1), (16, .iload_n 3, 1), (17, .aload_n 2, 1), (18, .getfield 25, 3), (21, .if_icmp .ge 41, 3), (24, .aload_n 0, 1), (25, .iload_n 1, 1), (26, .iload_n 3, 1), (27, .invokevirtual 47, 3), (30, .aload_n 2, 1), (31, .getfield 30, 3), (34, .iload_n 3, 1), (35, .iaload, 1), (36, .if_icmp .ne 18, 3), (39, .aload_n 0, 1), (40, .iload_n 1, 1), (41, .iload_n 3, 1), (42, .invokevirtual 51, 3), (45, .aload_n 2, 1), (46, .getfield 33, 3), (49, .iload_n 3, 1), (50, .iaload, 1), (51, .if_icmp .eq 5, 3), (54, .iconst 0, 1), (55, .ireturn, 1), (56, .iinc 3 1, 3), (59, .goto (-43), 3), (62, .iconst 1, 1), (63, .ireturn, 1)]
set_option maxRecDepth 100000 in
theorem dtX2_isSame : allD cX2_isSame tbX2_isSame = true := by decide +kernel
theorem dX2_isSame_0 : decode cX2_isSame 0 = .ok (.aload_n 0, 1) := allD_get dtX2_isSame 0 rfl
theorem dX2_isSame_1 : decode cX2_isSame 1 = .ok (.iload_n 1, 1) := allD_get dtX2_isSame 1 rfl
theorem dX2_isSame_2 : decode cX2_isSame 2 = .ok (.invokevirtual 44, 3) := allD_get dtX2_isSame 2 rfl
theorem dX2_isSame_5 : decode cX2_isSame 5 = .ok (.aload_n 2, 1) := allD_get dtX2_isSame 3 rfl
theorem dX2_isSame_6 : decode cX2_isSame 6 = .ok (.getfield 25, 3) := allD_get dtX2_isSame 4 rfl
theorem dX2_isSame_9 : decode cX2_isSame 9 = .ok (.if_icmp .eq 5, 3) := allD_get dtX2_isSame 5 rfl
theorem dX2_isSame_12 : decode cX2_isSame 12 = .ok (.iconst 0, 1) := allD_get dtX2_isSame 6 rfl
theorem dX2_isSame_13 : decode cX2_isSame 13 = .ok (.ireturn, 1) := allD_get dtX2_isSame 7 rfl
theorem dX2_isSame_14 : decode cX2_isSame 14 = .ok (.iconst 0, 1) := allD_get dtX2_isSame 8 rfl
theorem dX2_isSame_15 : decode cX2_isSame 15 = .ok (.istore_n 3, 1) := allD_get dtX2_isSame 9 rfl
theorem dX2_isSame_16 : decode cX2_isSame 16 = .ok (.iload_n 3, 1) := allD_get dtX2_isSame 10 rfl
theorem dX2_isSame_17 : decode cX2_isSame 17 = .ok (.aload_n 2, 1) := allD_get dtX2_isSame 11 rfl
theorem dX2_isSame_18 : decode cX2_isSame 18 = .ok (.getfield 25, 3) := allD_get dtX2_isSame 12 rfl
theorem dX2_isSame_21 : decode cX2_isSame 21 = .ok (.if_icmp .ge 41, 3) := allD_get dtX2_isSame 13 rfl
theorem dX2_isSame_24 : decode cX2_isSame 24 = .ok (.aload_n 0, 1) := allD_get dtX2_isSame 14 rfl
theorem dX2_isSame_25 : decode cX2_isSame 25 = .ok (.iload_n 1, 1) := allD_get dtX2_isSame 15 rfl
theorem dX2_isSame_26 : decode cX2_isSame 26 = .ok (.iload_n 3, 1) := allD_get dtX2_isSame 16 rfl
theorem dX2_isSame_27 : decode cX2_isSame 27 = .ok (.invokevirtual 47, 3) := allD_get dtX2_isSame 17 rfl
theorem dX2_isSame_30 : decode cX2_isSame 30 = .ok (.aload_n 2, 1) := allD_get dtX2_isSame 18 rfl
theorem dX2_isSame_31 : decode cX2_isSame 31 = .ok (.getfield 30, 3) := allD_get dtX2_isSame 19 rfl
theorem dX2_isSame_34 : decode cX2_isSame 34 = .ok (.iload_n 3, 1) := allD_get dtX2_isSame 20 rfl
theorem dX2_isSame_35 : decode cX2_isSame 35 = .ok (.iaload, 1) := allD_get dtX2_isSame 21 rfl
theorem dX2_isSame_36 : decode cX2_isSame 36 = .ok (.if_icmp .ne 18, 3) := allD_get dtX2_isSame 22 rfl
theorem dX2_isSame_39 : decode cX2_isSame 39 = .ok (.aload_n 0, 1) := allD_get dtX2_isSame 23 rfl
theorem dX2_isSame_40 : decode cX2_isSame 40 = .ok (.iload_n 1, 1) := allD_get dtX2_isSame 24 rfl
theorem dX2_isSame_41 : decode cX2_isSame 41 = .ok (.iload_n 3, 1) := allD_get dtX2_isSame 25 rfl
theorem dX2_isSame_42 : decode cX2_isSame 42 = .ok (.invokevirtual 51, 3) := allD_get dtX2_isSame 26 rfl
theorem dX2_isSame_45 : decode cX2_isSame 45 = .ok (.aload_n 2, 1) := allD_get dtX2_isSame 27 rfl
theorem dX2_isSame_46 : decode cX2_isSame 46 = .ok (.getfield 33, 3) := allD_get dtX2_isSame 28 rfl
theorem dX2_isSame_49 : decode cX2_isSame 49 = .ok (.iload_n 3, 1) := allD_get dtX2_isSame 29 rfl
theorem dX2_isSame_50 : decode cX2_isSame 50 = .ok (.iaload, 1) := allD_get dtX2_isSame 30 rfl
theorem dX2_isSame_51 : decode cX2_isSame 51 = .ok (.if_icmp .eq 5, 3) := allD_get dtX2_isSame 31 rfl
theorem dX2_isSame_54 : decode cX2_isSame 54 = .ok (.iconst 0, 1) := allD_get dtX2_isSame 32 rfl
theorem dX2_isSame_55 : decode cX2_isSame 55 = .ok (.ireturn, 1) := allD_get dtX2_isSame 33 rfl
theorem dX2_isSame_56 : decode cX2_isSame 56 = .ok (.iinc 3 1, 3) := allD_get dtX2_isSame 34 rfl
theorem dX2_isSame_59 : decode cX2_isSame 59 = .ok (.goto (-43), 3) := allD_get dtX2_isSame 35 rfl
theorem dX2_isSame_62 : decode cX2_isSame 62 = .ok (.iconst 1, 1) := allD_get dtX2_isSame 36 rfl
theorem dX2_isSame_63 : decode cX2_isSame 63 = .ok (.ireturn, 1) := allD_get dtX2_isSame 37 rfl
def tbX2_left : List (Nat × Instr × Nat) := [(0, .aload_n 0, 1), (1, .iload_n 1, 1), (2, .bipush 50, 2), (4, .imul, 1), (5, .iconst 2, 1), (6, .iadd, 1), (7, .aload_n 0, 1), (8, .iload_n 1, 1), (9, .invokevirtual 44, 3), (12, .invokevirtual 54, 3), (15, .ireturn, 1)]
set_option maxRecDepth 100000 in
theorem dtX2_left : allD cX2_left tbX2_left = true := by decide +kernel
theorem dX2_left_0 : decode cX2_left 0 = .ok (.aload_n 0, 1) := allD_get dtX2_left 0 rfl
theorem dX2_left_1 : decode cX2_left 1 = .ok (.iload_n 1, 1) := allD_get dtX2_left 1 rfl
theorem dX2_left_2 : decode cX2_left 2 = .ok (.bipush 50, 2) := allD_get dtX2_left 2 rfl
theorem dX2_left_4 : decode cX2_left 4 = .ok (.imul, 1) := allD_get dtX2_left 3 rfl
theorem dX2_left_5 : decode cX2_left 5 = .ok (.iconst 2, 1) := allD_get dtX2_left 4 rfl
theorem dX2_left_6 : decode cX2_left 6 = .ok (.iadd, 1) := allD_get dtX2_left 5 rfl
theorem dX2_left_7 : decode cX2_left 7 = .ok (.aload_n 0, 1) := allD_get dtX2_left 6 rfl
theorem dX2_left_8 : decode cX2_left 8 = .ok (.iload_n 1, 1) := allD_get dtX2_left 7 rfl
theorem dX2_left_9 : decode cX2_left 9 = .ok (.invokevirtual 44, 3) := allD_get dtX2_left 8 rfl
theorem dX2_left_12 : decode cX2_left 12 = .ok (.invokevirtual 54, 3) := allD_get dtX2_left 9 rfl
theorem dX2_left_15 : decode cX2_left 15 = .ok (.ireturn, 1) := allD_get dtX2_left 10 rfl
def tbX2_right : List (Nat × Instr × Nat) := [(0, .aload_n 0, 1), (1, .iload_n 1, 1), (2, .bipush 50, 2), (4, .imul, 1), (5, .iconst 2, 1), (6, .iadd, 1), (7, .aload_n 0, 1), (8, .iload_n 1, 1), (9, .invokevirtual 44, 3), (12, .invokevirtual 57, 3), (15, .ireturn, 1)]
set_option maxRecDepth 100000 in
theorem dtX2_right : allD cX2_right tbX2_right = true := by decide +kernel
theorem dX2_right_0 : decode cX2_right 0 = .ok (.aload_n 0, 1) := allD_get dtX2_right 0 rfl
theorem dX2_right_1 : decode cX2_right 1 = .ok (.iload_n 1, 1) := allD_get dtX2_right 1 rfl
theorem dX2_right_2 : decode cX2_right 2 = .ok (.bipush 50, 2) := allD_get dtX2_right 2 rfl
theorem dX2_right_4 : decode cX2_right 4 = .ok (.imul, 1) := allD_get dtX2_right 3 rfl
theorem dX2_right_5 : decode cX2_right 5 = .ok (.iconst 2, 1) := allD_get dtX2_right 4 rfl
theorem dX2_right_6 : decode cX2_right 6 = .ok (.iadd, 1) := allD_get dtX2_right 5 rfl
theorem dX2_right_7 : decode cX2_right 7 = .ok (.aload_n 0, 1) := allD_get dtX2_right 6 rfl
theorem dX2_right_8 : decode cX2_right 8 = .ok (.iload_n 1, 1) := allD_get dtX2_right 7 rfl
theorem dX2_right_9 : decode cX2_right 9 = .ok (.invokevirtual 44, 3) := allD_get dtX2_right 8 rfl
theorem dX2_right_12 : decode cX2_right 12 = .ok (.invokevirtual 57, 3) := allD_get dtX2_right 9 rfl
theorem dX2_right_15 : decode cX2_right 15 = .ok (.ireturn, 1) := allD_get dtX2_right 10 rfl
def tbX2_top : List (Nat × Instr × Nat) := [(0, .aload_n 0, 1), (1, .iload_n 1, 1), (2, .bipush 50, 2), (4, .imul, 1), (5, .bipush 26, 2), (7, .iadd, 1), (8, .aload_n 0, 1), (9, .iload_n 1, 1), (10, .invokevirtual 44, 3), (13, .invokevirtual 54, 3), (16, .ireturn, 1)]
set_option maxRecDepth 100000 in
theorem dtX2_top : allD cX2_top tbX2_top = true := by decide +kernel
theorem dX2_top_0 : decode cX2_top 0 = .ok (.aload_n 0, 1) := allD_get dtX2_top 0 rfl
theorem dX2_top_1 : decode cX2_top 1 = .ok (.iload_n 1, 1) := allD_get dtX2_top 1 rfl
theorem dX2_top_2 : decode cX2_top 2 = .ok (.bipush 50, 2) := allD_get dtX2_top 2 rfl
theorem dX2_top_4 : decode cX2_top 4 = .ok (.imul, 1) := allD_get dtX2_top 3 rfl
theorem dX2_top_5 : decode cX2_top 5 = .ok (.bipush 26, 2) := allD_get dtX2_top 4 rfl
theorem dX2_top_7 : decode cX2_top 7 = .ok (.iadd, 1) := allD_get dtX2_top 5 rfl
theorem dX2_top_8 : decode cX2_top 8 = .ok (.aload_n 0, 1) := allD_get dtX2_top 6 rfl
theorem dX2_top_9 : decode cX2_top 9 = .ok (.iload_n 1, 1) := allD_get dtX2_top 7 rfl
theorem dX2_top_10 : decode cX2_top 10 = .ok (.invokevirtual 44, 3) := allD_get dtX2_top 8 rfl
theorem dX2_top_13 : decode cX2_top 13 = .ok (.invokevirtual 54, 3) := allD_get dtX2_top 9 rfl
theorem dX2_top_16 : decode cX2_top 16 = .ok (.ireturn, 1) := allD_get dtX2_top 10 rfl
def tbX2_bottom : List (Nat × Instr × Nat) := [(0, .aload_n 0, 1), (1, .iload_n 1, 1), (2, .bipush 50, 2), (4, .imul, 1), (5, .bipush 26, 2), (7, .iadd, 1), (8, .aload_n 0, 1), (9, .iload_n 1, 1), (10, .invokevirtual 44, 3), (13, .invokevirtual 57, 3), (16, .ireturn, 1)]
set_option maxRecDepth 100000 in
theorem dtX2_bottom : allD cX2_bottom tbX2_bottom = true := by decide +kernel
theorem dX2_bottom_0 : decode cX2_bottom 0 = .ok (.aload_n 0, 1) := allD_get dtX2_bottom 0 rfl
theorem dX2_bottom_1 : decode cX2_bottom 1 = .ok (.iload_n 1, 1) := allD_get dtX2_bottom 1 rfl
theorem dX2_bottom_2 : decode cX2_bottom 2 = .ok (.bipush 50, 2) := allD_get dtX2_bottom 2 rfl
theorem dX2_bottom_4 : decode cX2_bottom 4 = .ok (.imul, 1) := allD_get dtX2_bottom 3 rfl
theorem dX2_bottom_5 : decode cX2_bottom 5 = .ok (.bipush 26, 2) := allD_get dtX2_bottom 4 rfl
theorem dX2_bottom_7 : decode cX2_bottom 7 = .ok (.iadd, 1) := allD_get dtX2_bottom 5 rfl
theorem dX2_bottom_8 : decode cX2_bottom 8 = .ok (.aload_n 0, 1) := allD_get dtX2_bottom 6 rfl
theorem dX2_bottom_9 : decode cX2_bottom 9 = .ok (.iload_n 1, 1) := allD_get dtX2_bottom 7 rfl
theorem dX2_bottom_10 : decode cX2_bottom 10 = .ok (.invokevirtual 44, 3) := allD_get dtX2_bottom 8 rfl
theorem dX2_bottom_13 : decode cX2_bottom 13 = .ok (.invokevirtual 57, 3) := allD_get dtX2_bottom 9 rfl
theorem dX2_bottom_16 : decode cX2_bottom 16 = .ok (.ireturn, 1) := allD_get dtX2_bottom 10 rfl
def tbX2_leastFrom : List (Nat × Instr × Nat) := [(0, .aload_n 0, 1), (1, .getfield 9, 3), (4, .iload_n 1, 1), (5, .iaload, 1), (6, .istore_n 3, 1), (7, .iconst 1, 1), (8, .istore 4, 2), (10, .iload 4, 2), (12, .iload_n 2, 1), (13, .if_icmp .ge 23, 3), (16, .iload_n 3, 1), (17, .aload_n 0, 1), (18, .getfield 9, 3), (21, .iload_n 1, 1), (22, .iload 4, 2), (24, .iadd, 1), (25, .iaload, 1), (26, .invokestatic 60, 3), (29, .istore_n 3, 1), (30, .iinc 4 1, 3), (33, .goto (-23), 3), (36, .iload_n 3, 1), (37, .ireturn, 1)]
set_option maxRecDepth 100000 in
theorem dtX2_leastFrom : allD cX2_leastFrom tbX2_leastFrom = true := by decide +kernel
theorem dX2_leastFrom_0 : decode cX2_leastFrom 0 = .ok (.aload_n 0, 1) := allD_get dtX2_leastFrom 0 rfl
theorem dX2_leastFrom_1 : decode cX2_leastFrom 1 = .ok (.getfield 9, 3) := allD_get dtX2_leastFrom 1 rfl
theorem dX2_leastFrom_4 : decode cX2_leastFrom 4 = .ok (.iload_n 1, 1) := allD_get dtX2_leastFrom 2 rfl
theorem dX2_leastFrom_5 : decode cX2_leastFrom 5 = .ok (.iaload, 1) := allD_get dtX2_leastFrom 3 rfl
theorem dX2_leastFrom_6 : decode cX2_leastFrom 6 = .ok (.istore_n 3, 1) := allD_get dtX2_leastFrom 4 rfl
theorem dX2_leastFrom_7 : decode cX2_leastFrom 7 = .ok (.iconst 1, 1) := allD_get dtX2_leastFrom 5 rfl
theorem dX2_leastFrom_8 : decode cX2_leastFrom 8 = .ok (.istore 4, 2) := allD_get dtX2_leastFrom 6 rfl
theorem dX2_leastFrom_10 : decode cX2_leastFrom 10 = .ok (.iload 4, 2) := allD_get dtX2_leastFrom 7 rfl
theorem dX2_leastFrom_12 : decode cX2_leastFrom 12 = .ok (.iload_n 2, 1) := allD_get dtX2_leastFrom 8 rfl
theorem dX2_leastFrom_13 : decode cX2_leastFrom 13 = .ok (.if_icmp .ge 23, 3) := allD_get dtX2_leastFrom 9 rfl
theorem dX2_leastFrom_16 : decode cX2_leastFrom 16 = .ok (.iload_n 3, 1) := allD_get dtX2_leastFrom 10 rfl
theorem dX2_leastFrom_17 : decode cX2_leastFrom 17 = .ok (.aload_n 0, 1) := allD_get dtX2_leastFrom 11 rfl
theorem dX2_leastFrom_18 : decode cX2_leastFrom 18 = .ok (.getfield 9, 3) := allD_get dtX2_leastFrom 12 rfl
theorem dX2_leastFrom_21 : decode cX2_leastFrom 21 = .ok (.iload_n 1, 1) := allD_get dtX2_leastFrom 13 rfl
theorem dX2_leastFrom_22 : decode cX2_leastFrom 22 = .ok (.iload 4, 2) := allD_get dtX2_leastFrom 14 rfl
theorem dX2_leastFrom_24 : decode cX2_leastFrom 24 = .ok (.iadd, 1) := allD_get dtX2_leastFrom 15 rfl
theorem dX2_leastFrom_25 : decode cX2_leastFrom 25 = .ok (.iaload, 1) := allD_get dtX2_leastFrom 16 rfl
theorem dX2_leastFrom_26 : decode cX2_leastFrom 26 = .ok (.invokestatic 60, 3) := allD_get dtX2_leastFrom 17 rfl
theorem dX2_leastFrom_29 : decode cX2_leastFrom 29 = .ok (.istore_n 3, 1) := allD_get dtX2_leastFrom 18 rfl
theorem dX2_leastFrom_30 : decode cX2_leastFrom 30 = .ok (.iinc 4 1, 3) := allD_get dtX2_leastFrom 19 rfl
theorem dX2_leastFrom_33 : decode cX2_leastFrom 33 = .ok (.goto (-23), 3) := allD_get dtX2_leastFrom 20 rfl
theorem dX2_leastFrom_36 : decode cX2_leastFrom 36 = .ok (.iload_n 3, 1) := allD_get dtX2_leastFrom 21 rfl
theorem dX2_leastFrom_37 : decode cX2_leastFrom 37 = .ok (.ireturn, 1) := allD_get dtX2_leastFrom 22 rfl
def tbX2_greatestFrom : List (Nat × Instr × Nat) := [(0, .aload_n 0, 1), (1, .getfield 9, 3), (4, .iload_n 1, 1), (5, .iaload, 1), (6, .istore_n 3, 1), (7, .iconst 1, 1), (8, .istore 4, 2), (10, .iload 4, 2), (12, .iload_n 2, 1), (13, .if_icmp .ge 23, 3), (16, .iload_n 3, 1), (17, .aload_n 0, 1), (18, .getfield 9, 3), (21, .iload_n 1, 1), (22, .iload 4, 2), (24, .iadd, 1), (25, .iaload, 1), (26, .invokestatic 65, 3), (29, .istore_n 3, 1), (30, .iinc 4 1, 3), (33, .goto (-23), 3), (36, .iload_n 3, 1), (37, .ireturn, 1)]
set_option maxRecDepth 100000 in
theorem dtX2_greatestFrom : allD cX2_greatestFrom tbX2_greatestFrom = true := by decide +kernel
theorem dX2_greatestFrom_0 : decode cX2_greatestFrom 0 = .ok (.aload_n 0, 1) := allD_get dtX2_greatestFrom 0 rfl
theorem dX2_greatestFrom_1 : decode cX2_greatestFrom 1 = .ok (.getfield 9, 3) := allD_get dtX2_greatestFrom 1 rfl
theorem dX2_greatestFrom_4 : decode cX2_greatestFrom 4 = .ok (.iload_n 1, 1) := allD_get dtX2_greatestFrom 2 rfl
theorem dX2_greatestFrom_5 : decode cX2_greatestFrom 5 = .ok (.iaload, 1) := allD_get dtX2_greatestFrom 3 rfl
theorem dX2_greatestFrom_6 : decode cX2_greatestFrom 6 = .ok (.istore_n 3, 1) := allD_get dtX2_greatestFrom 4 rfl
theorem dX2_greatestFrom_7 : decode cX2_greatestFrom 7 = .ok (.iconst 1, 1) := allD_get dtX2_greatestFrom 5 rfl
theorem dX2_greatestFrom_8 : decode cX2_greatestFrom 8 = .ok (.istore 4, 2) := allD_get dtX2_greatestFrom 6 rfl
theorem dX2_greatestFrom_10 : decode cX2_greatestFrom 10 = .ok (.iload 4, 2) := allD_get dtX2_greatestFrom 7 rfl
theorem dX2_greatestFrom_12 : decode cX2_greatestFrom 12 = .ok (.iload_n 2, 1) := allD_get dtX2_greatestFrom 8 rfl
theorem dX2_greatestFrom_13 : decode cX2_greatestFrom 13 = .ok (.if_icmp .ge 23, 3) := allD_get dtX2_greatestFrom 9 rfl
theorem dX2_greatestFrom_16 : decode cX2_greatestFrom 16 = .ok (.iload_n 3, 1) := allD_get dtX2_greatestFrom 10 rfl
theorem dX2_greatestFrom_17 : decode cX2_greatestFrom 17 = .ok (.aload_n 0, 1) := allD_get dtX2_greatestFrom 11 rfl
theorem dX2_greatestFrom_18 : decode cX2_greatestFrom 18 = .ok (.getfield 9, 3) := allD_get dtX2_greatestFrom 12 rfl
theorem dX2_greatestFrom_21 : decode cX2_greatestFrom 21 = .ok (.iload_n 1, 1) := allD_get dtX2_greatestFrom 13 rfl
theorem dX2_greatestFrom_22 : decode cX2_greatestFrom 22 = .ok (.iload 4, 2) := allD_get dtX2_greatestFrom 14 rfl
theorem dX2_greatestFrom_24 : decode cX2_greatestFrom 24 = .ok (.iadd, 1) := allD_get dtX2_greatestFrom 15 rfl
theorem dX2_greatestFrom_25 : decode cX2_greatestFrom 25 = .ok (.iaload, 1) := allD_get dtX2_greatestFrom 16 rfl
theorem dX2_greatestFrom_26 : decode cX2_greatestFrom 26 = .ok (.invokestatic 65, 3) := allD_get dtX2_greatestFrom 17 rfl
theorem dX2_greatestFrom_29 : decode cX2_greatestFrom 29 = .ok (.istore_n 3, 1) := allD_get dtX2_greatestFrom 18 rfl
theorem dX2_greatestFrom_30 : decode cX2_greatestFrom 30 = .ok (.iinc 4 1, 3) := allD_get dtX2_greatestFrom 19 rfl
theorem dX2_greatestFrom_33 : decode cX2_greatestFrom 33 = .ok (.goto (-23), 3) := allD_get dtX2_greatestFrom 20 rfl
theorem dX2_greatestFrom_36 : decode cX2_greatestFrom 36 = .ok (.iload_n 3, 1) := allD_get dtX2_greatestFrom 21 rfl
theorem dX2_greatestFrom_37 : decode cX2_greatestFrom 37 = .ok (.ireturn, 1) := allD_get dtX2_greatestFrom 22 rfl
def tbX2_length : List (Nat × Instr × Nat) := [(0, .iconst 0, 1), (1, .istore_n 2, 1), (2, .iconst 1, 1), (3, .istore_n 3, 1), (4, .iload_n 3, 1), (5, .aload_n 0, 1), (6, .iload_n 1, 1), (7, .invokevirtual 44, 3), (10, .if_icmp .ge 59, 3), (13, .aload_n 0, 1), (14, .iload_n 1, 1), (15, .iload_n 3, 1), (16, .invokevirtual 47, 3), (19, .aload_n 0, 1), (20, .iload_n 1, 1), (21, .iload_n 3, 1), (22, .iconst 1, 1), (23, .isub, 1), (24, .invokevirtual 47, 3), (27, .isub, 1), (28, .istore 4, 2), (30, .aload_n 0, 1), (31, .iload_n 1, 1), (32, .iload_n 3, 1), (33, .invokevirtual 51, 3), (36, .aload_n 0, 1), (37, .iload_n 1, 1), (38, .iload_n 3, 1), (39, .iconst 1, 1), (40, .isub, 1), (41, .invokevirtual 51, 3), (44, .isub, 1), (45, .istore 5, 2), (47, .iload_n 2, 1), (48, .bipush 100, 2), (50, .iload 4, 2), (52, .iload 5, 2), (54, .invokestatic 68, 3), (57, .imul, 1), (58, .invokestatic 71, 3), (61, .iadd, 1), (62, .istore_n 2, 1), (63, .iinc 3 1, 3), (66, .goto (-62), 3), (69, .iload_n 2, 1), (70, .ireturn, 1)]
set_option maxRecDepth 100000 in
theorem dtX2_length : allD cX2_length tbX2_length = true := by decide +kernel
theorem dX2_length_0 : decode cX2_length 0 = .ok (.iconst 0, 1) := allD_get dtX2_length 0 rfl
theorem dX2_length_1 : decode cX2_length 1 = .ok (.istore_n 2, 1) := allD_get dtX2_length 1 rfl
theorem dX2_length_2 : decode cX2_length 2 = .ok (.iconst 1, 1) := allD_get dtX2_length 2 rfl
theorem dX2_length_3 : decode cX2_length 3 = .ok (.istore_n 3, 1) := allD_get dtX2_length 3 rfl
theorem dX2_length_4 : decode cX2_length 4 = .ok (.iload_n 3, 1) := allD_get dtX2_length 4 rfl
theorem dX2_length_5 : decode cX2_length 5 = .ok (.aload_n 0, 1) := allD_get dtX2_length 5 rfl
theorem dX2_length_6 : decode cX2_length 6 = .ok (.iload_n 1, 1) := allD_get dtX2_length 6 rfl
theorem dX2_length_7 : decode cX2_length 7 = .ok (.invokevirtual 44, 3) := allD_get dtX2_length 7 rfl
theorem dX2_length_10 : decode cX2_length 10 = .ok (.if_icmp .ge 59, 3) := allD_get dtX2_length 8 rfl
theorem dX2_length_13 : decode cX2_length 13 = .ok (.aload_n 0, 1) := allD_get dtX2_length 9 rfl
theorem dX2_length_14 : decode cX2_length 14 = .ok (.iload_n 1, 1) := allD_get dtX2_length 10 rfl
theorem dX2_length_15 : decode cX2_length 15 = .ok (.iload_n 3, 1) := allD_get dtX2_length 11 rfl
theorem dX2_length_16 : decode cX2_length 16 = .ok (.invokevirtual 47, 3) := allD_get dtX2_length 12 rfl
theorem dX2_length_19 : decode cX2_length 19 = .ok (.aload_n 0, 1) := allD_get dtX2_length 13 rfl
theorem dX2_length_20 : decode cX2_length 20 = .ok (.iload_n 1, 1) := allD_get dtX2_length 14 rfl
theorem dX2_length_21 : decode cX2_length 21 = .ok (.iload_n 3, 1) := allD_get dtX2_length 15 rfl
theorem dX2_length_22 : decode cX2_length 22 = .ok (.iconst 1, 1) := allD_get dtX2_length 16 rfl
theorem dX2_length_23 : decode cX2_length 23 = .ok (.isub, 1) := allD_get dtX2_length 17 rfl
theorem dX2_length_24 : decode cX2_length 24 = .ok (.invokevirtual 47, 3) := allD_get dtX2_length 18 rfl
theorem dX2_length_27 : decode cX2_length 27 = .ok (.isub, 1) := allD_get dtX2_length 19 rfl
theorem dX2_length_28 : decode cX2_length 28 = .ok (.istore 4, 2) := allD_get dtX2_length 20 rfl
theorem dX2_length_30 : decode cX2_length 30 = .ok (.aload_n 0, 1) := allD_get dtX2_length 21 rfl
theorem dX2_length_31 : decode cX2_length 31 = .ok (.iload_n 1, 1) := allD_get dtX2_length 22 rfl
theorem dX2_length_32 : decode cX2_length 32 = .ok (.iload_n 3, 1) := allD_get dtX2_length 23 rfl
theorem dX2_length_33 : decode cX2_length 33 = .ok (.invokevirtual 51, 3) := allD_get dtX2_length 24 rfl
theorem dX2_length_36 : decode cX2_length 36 = .ok (.aload_n 0, 1) := allD_get dtX2_length 25 rfl
theorem dX2_length_37 : decode cX2_length 37 = .ok (.iload_n 1, 1) := allD_get dtX2_length 26 rfl
theorem dX2_length_38 : decode cX2_length 38 = .ok (.iload_n 3, 1) := allD_get dtX2_length 27 rfl
theorem dX2_length_39 : decode cX2_length 39 = .ok (.iconst 1, 1) := allD_get dtX2_length 28 rfl
theorem dX2_length_40 : decode cX2_length 40 = .ok (.isub, 1) := allD_get dtX2_length 29 rfl
theorem dX2_length_41 : decode cX2_length 41 = .ok (.invokevirtual 51, 3) := allD_get dtX2_length 30 rfl
theorem dX2_length_44 : decode cX2_length 44 = .ok (.isub, 1) := allD_get dtX2_length 31 rfl
theorem dX2_length_45 : decode cX2_length 45 = .ok (.istore 5, 2) := allD_get dtX2_length 32 rfl
theorem dX2_length_47 : decode cX2_length 47 = .ok (.iload_n 2, 1) := allD_get dtX2_length 33 rfl
theorem dX2_length_48 : decode cX2_length 48 = .ok (.bipush 100, 2) := allD_get dtX2_length 34 rfl
theorem dX2_length_50 : decode cX2_length 50 = .ok (.iload 4, 2) := allD_get dtX2_length 35 rfl
theorem dX2_length_52 : decode cX2_length 52 = .ok (.iload 5, 2) := allD_get dtX2_length 36 rfl
theorem dX2_length_54 : decode cX2_length 54 = .ok (.invokestatic 68, 3) := allD_get dtX2_length 37 rfl
theorem dX2_length_57 : decode cX2_length 57 = .ok (.imul, 1) := allD_get dtX2_length 38 rfl
theorem dX2_length_58 : decode cX2_length 58 = .ok (.invokestatic 71, 3) := allD_get dtX2_length 39 rfl
theorem dX2_length_61 : decode cX2_length 61 = .ok (.iadd, 1) := allD_get dtX2_length 40 rfl
theorem dX2_length_62 : decode cX2_length 62 = .ok (.istore_n 2, 1) := allD_get dtX2_length 41 rfl
theorem dX2_length_63 : decode cX2_length 63 = .ok (.iinc 3 1, 3) := allD_get dtX2_length 42 rfl
theorem dX2_length_66 : decode cX2_length 66 = .ok (.goto (-62), 3) := allD_get dtX2_length 43 rfl
theorem dX2_length_69 : decode cX2_length 69 = .ok (.iload_n 2, 1) := allD_get dtX2_length 44 rfl
theorem dX2_length_70 : decode cX2_length 70 = .ok (.ireturn, 1) := allD_get dtX2_length 45 rfl
def tbX2_isOf : List (Nat × Instr × Nat) := [(0, .iload_n 2, 1), (1, .iconst (-1), 1), (2, .if_icmp .eq 12, 3), (5, .aload_n 0, 1), (6, .iload_n 1, 1), (7, .invokevirtual 74, 3), (10, .iload_n 2, 1), (11, .if_icmp .ne 7, 3), (14, .iconst 1, 1), (15, .goto 4, 3), (18, .iconst 0, 1), (19, .ireturn, 1)]
set_option maxRecDepth 100000 in
theorem dtX2_isOf : allD cX2_isOf tbX2_isOf = true := by decide +kernel
theorem dX2_isOf_0 : decode cX2_isOf 0 = .ok (.iload_n 2, 1) := allD_get dtX2_isOf 0 rfl
theorem dX2_isOf_1 : decode cX2_isOf 1 = .ok (.iconst (-1), 1) := allD_get dtX2_isOf 1 rfl
theorem dX2_isOf_2 : decode cX2_isOf 2 = .ok (.if_icmp .eq 12, 3) := allD_get dtX2_isOf 2 rfl
theorem dX2_isOf_5 : decode cX2_isOf 5 = .ok (.aload_n 0, 1) := allD_get dtX2_isOf 3 rfl
theorem dX2_isOf_6 : decode cX2_isOf 6 = .ok (.iload_n 1, 1) := allD_get dtX2_isOf 4 rfl
theorem dX2_isOf_7 : decode cX2_isOf 7 = .ok (.invokevirtual 74, 3) := allD_get dtX2_isOf 5 rfl
theorem dX2_isOf_10 : decode cX2_isOf 10 = .ok (.iload_n 2, 1) := allD_get dtX2_isOf 6 rfl
theorem dX2_isOf_11 : decode cX2_isOf 11 = .ok (.if_icmp .ne 7, 3) := allD_get dtX2_isOf 7 rfl
theorem dX2_isOf_14 : decode cX2_isOf 14 = .ok (.iconst 1, 1) := allD_get dtX2_isOf 8 rfl
theorem dX2_isOf_15 : decode cX2_isOf 15 = .ok (.goto 4, 3) := allD_get dtX2_isOf 9 rfl
theorem dX2_isOf_18 : decode cX2_isOf 18 = .ok (.iconst 0, 1) := allD_get dtX2_isOf 10 rfl
theorem dX2_isOf_19 : decode cX2_isOf 19 = .ok (.ireturn, 1) := allD_get dtX2_isOf 11 rfl
def tbX2_strokesOf : List (Nat × Instr × Nat) := [(0, .iconst 0, 1), (1, .istore_n 2, 1), (2, .iconst 0, 1), (3, .istore_n 3, 1), (4, .iload_n 3, 1), (5, .aload_n 0, 1), (6, .getfield 15, 3), (9, .if_icmp .ge 26, 3), (12, .iload_n 2, 1), (13, .aload_n 0, 1), (14, .iload_n 3, 1), (15, .iload_n 1, 1), (16, .invokevirtual 77, 3), (19, .ifCond .eq 7, 3), (22, .iconst 1, 1), (23, .goto 4, 3), (26, .iconst 0, 1), (27, .iadd, 1), (28, .istore_n 2, 1), (29, .iinc 3 1, 3), (32, .goto (-28), 3), (35, .iload_n 2, 1), (36, .ireturn, 1)]
set_option maxRecDepth 100000 in
theorem dtX2_strokesOf : allD cX2_strokesOf tbX2_strokesOf = true := by decide +kernel
theorem dX2_strokesOf_0 : decode cX2_strokesOf 0 = .ok (.iconst 0, 1) := allD_get dtX2_strokesOf 0 rfl
theorem dX2_strokesOf_1 : decode cX2_strokesOf 1 = .ok (.istore_n 2, 1) := allD_get dtX2_strokesOf 1 rfl
theorem dX2_strokesOf_2 : decode cX2_strokesOf 2 = .ok (.iconst 0, 1) := allD_get dtX2_strokesOf 2 rfl
theorem dX2_strokesOf_3 : decode cX2_strokesOf 3 = .ok (.istore_n 3, 1) := allD_get dtX2_strokesOf 3 rfl
theorem dX2_strokesOf_4 : decode cX2_strokesOf 4 = .ok (.iload_n 3, 1) := allD_get dtX2_strokesOf 4 rfl
theorem dX2_strokesOf_5 : decode cX2_strokesOf 5 = .ok (.aload_n 0, 1) := allD_get dtX2_strokesOf 5 rfl
theorem dX2_strokesOf_6 : decode cX2_strokesOf 6 = .ok (.getfield 15, 3) := allD_get dtX2_strokesOf 6 rfl
theorem dX2_strokesOf_9 : decode cX2_strokesOf 9 = .ok (.if_icmp .ge 26, 3) := allD_get dtX2_strokesOf 7 rfl
theorem dX2_strokesOf_12 : decode cX2_strokesOf 12 = .ok (.iload_n 2, 1) := allD_get dtX2_strokesOf 8 rfl
theorem dX2_strokesOf_13 : decode cX2_strokesOf 13 = .ok (.aload_n 0, 1) := allD_get dtX2_strokesOf 9 rfl
theorem dX2_strokesOf_14 : decode cX2_strokesOf 14 = .ok (.iload_n 3, 1) := allD_get dtX2_strokesOf 10 rfl
theorem dX2_strokesOf_15 : decode cX2_strokesOf 15 = .ok (.iload_n 1, 1) := allD_get dtX2_strokesOf 11 rfl
theorem dX2_strokesOf_16 : decode cX2_strokesOf 16 = .ok (.invokevirtual 77, 3) := allD_get dtX2_strokesOf 12 rfl
theorem dX2_strokesOf_19 : decode cX2_strokesOf 19 = .ok (.ifCond .eq 7, 3) := allD_get dtX2_strokesOf 13 rfl
theorem dX2_strokesOf_22 : decode cX2_strokesOf 22 = .ok (.iconst 1, 1) := allD_get dtX2_strokesOf 14 rfl
theorem dX2_strokesOf_23 : decode cX2_strokesOf 23 = .ok (.goto 4, 3) := allD_get dtX2_strokesOf 15 rfl
theorem dX2_strokesOf_26 : decode cX2_strokesOf 26 = .ok (.iconst 0, 1) := allD_get dtX2_strokesOf 16 rfl
theorem dX2_strokesOf_27 : decode cX2_strokesOf 27 = .ok (.iadd, 1) := allD_get dtX2_strokesOf 17 rfl
theorem dX2_strokesOf_28 : decode cX2_strokesOf 28 = .ok (.istore_n 2, 1) := allD_get dtX2_strokesOf 18 rfl
theorem dX2_strokesOf_29 : decode cX2_strokesOf 29 = .ok (.iinc 3 1, 3) := allD_get dtX2_strokesOf 19 rfl
theorem dX2_strokesOf_32 : decode cX2_strokesOf 32 = .ok (.goto (-28), 3) := allD_get dtX2_strokesOf 20 rfl
theorem dX2_strokesOf_35 : decode cX2_strokesOf 35 = .ok (.iload_n 2, 1) := allD_get dtX2_strokesOf 21 rfl
theorem dX2_strokesOf_36 : decode cX2_strokesOf 36 = .ok (.ireturn, 1) := allD_get dtX2_strokesOf 22 rfl
def tbX2_pointsOf : List (Nat × Instr × Nat) := [(0, .iconst 0, 1), (1, .istore_n 2, 1), (2, .iconst 0, 1), (3, .istore_n 3, 1), (4, .iload_n 3, 1), (5, .aload_n 0, 1), (6, .getfield 15, 3), (9, .if_icmp .ge 30, 3), (12, .iload_n 2, 1), (13, .aload_n 0, 1), (14, .iload_n 3, 1), (15, .iload_n 1, 1), (16, .invokevirtual 77, 3), (19, .ifCond .eq 11, 3), (22, .aload_n 0, 1), (23, .iload_n 3, 1), (24, .invokevirtual 44, 3), (27, .goto 4, 3), (30, .iconst 0, 1), (31, .iadd, 1), (32, .istore_n 2, 1), (33, .iinc 3 1, 3), (36, .goto (-32), 3), (39, .iload_n 2, 1), (40, .ireturn, 1)]
set_option maxRecDepth 100000 in
theorem dtX2_pointsOf : allD cX2_pointsOf tbX2_pointsOf = true := by decide +kernel
theorem dX2_pointsOf_0 : decode cX2_pointsOf 0 = .ok (.iconst 0, 1) := allD_get dtX2_pointsOf 0 rfl
theorem dX2_pointsOf_1 : decode cX2_pointsOf 1 = .ok (.istore_n 2, 1) := allD_get dtX2_pointsOf 1 rfl
theorem dX2_pointsOf_2 : decode cX2_pointsOf 2 = .ok (.iconst 0, 1) := allD_get dtX2_pointsOf 2 rfl
theorem dX2_pointsOf_3 : decode cX2_pointsOf 3 = .ok (.istore_n 3, 1) := allD_get dtX2_pointsOf 3 rfl
theorem dX2_pointsOf_4 : decode cX2_pointsOf 4 = .ok (.iload_n 3, 1) := allD_get dtX2_pointsOf 4 rfl
theorem dX2_pointsOf_5 : decode cX2_pointsOf 5 = .ok (.aload_n 0, 1) := allD_get dtX2_pointsOf 5 rfl
theorem dX2_pointsOf_6 : decode cX2_pointsOf 6 = .ok (.getfield 15, 3) := allD_get dtX2_pointsOf 6 rfl
theorem dX2_pointsOf_9 : decode cX2_pointsOf 9 = .ok (.if_icmp .ge 30, 3) := allD_get dtX2_pointsOf 7 rfl
theorem dX2_pointsOf_12 : decode cX2_pointsOf 12 = .ok (.iload_n 2, 1) := allD_get dtX2_pointsOf 8 rfl
theorem dX2_pointsOf_13 : decode cX2_pointsOf 13 = .ok (.aload_n 0, 1) := allD_get dtX2_pointsOf 9 rfl
theorem dX2_pointsOf_14 : decode cX2_pointsOf 14 = .ok (.iload_n 3, 1) := allD_get dtX2_pointsOf 10 rfl
theorem dX2_pointsOf_15 : decode cX2_pointsOf 15 = .ok (.iload_n 1, 1) := allD_get dtX2_pointsOf 11 rfl
theorem dX2_pointsOf_16 : decode cX2_pointsOf 16 = .ok (.invokevirtual 77, 3) := allD_get dtX2_pointsOf 12 rfl
theorem dX2_pointsOf_19 : decode cX2_pointsOf 19 = .ok (.ifCond .eq 11, 3) := allD_get dtX2_pointsOf 13 rfl
theorem dX2_pointsOf_22 : decode cX2_pointsOf 22 = .ok (.aload_n 0, 1) := allD_get dtX2_pointsOf 14 rfl
theorem dX2_pointsOf_23 : decode cX2_pointsOf 23 = .ok (.iload_n 3, 1) := allD_get dtX2_pointsOf 15 rfl
theorem dX2_pointsOf_24 : decode cX2_pointsOf 24 = .ok (.invokevirtual 44, 3) := allD_get dtX2_pointsOf 16 rfl
theorem dX2_pointsOf_27 : decode cX2_pointsOf 27 = .ok (.goto 4, 3) := allD_get dtX2_pointsOf 17 rfl
theorem dX2_pointsOf_30 : decode cX2_pointsOf 30 = .ok (.iconst 0, 1) := allD_get dtX2_pointsOf 18 rfl
theorem dX2_pointsOf_31 : decode cX2_pointsOf 31 = .ok (.iadd, 1) := allD_get dtX2_pointsOf 19 rfl
theorem dX2_pointsOf_32 : decode cX2_pointsOf 32 = .ok (.istore_n 2, 1) := allD_get dtX2_pointsOf 20 rfl
theorem dX2_pointsOf_33 : decode cX2_pointsOf 33 = .ok (.iinc 3 1, 3) := allD_get dtX2_pointsOf 21 rfl
theorem dX2_pointsOf_36 : decode cX2_pointsOf 36 = .ok (.goto (-32), 3) := allD_get dtX2_pointsOf 22 rfl
theorem dX2_pointsOf_39 : decode cX2_pointsOf 39 = .ok (.iload_n 2, 1) := allD_get dtX2_pointsOf 23 rfl
theorem dX2_pointsOf_40 : decode cX2_pointsOf 40 = .ok (.ireturn, 1) := allD_get dtX2_pointsOf 24 rfl
def tbX2_lengthsOf : List (Nat × Instr × Nat) := [(0, .iconst 0, 1), (1, .istore_n 2, 1), (2, .iconst 0, 1), (3, .istore_n 3, 1), (4, .iload_n 3, 1), (5, .aload_n 0, 1), (6, .getfield 15, 3), (9, .if_icmp .ge 30, 3), (12, .iload_n 2, 1), (13, .aload_n 0, 1), (14, .iload_n 3, 1), (15, .iload_n 1, 1), (16, .invokevirtual 77, 3), (19, .ifCond .eq 11, 3), (22, .aload_n 0, 1), (23, .iload_n 3, 1), (24, .invokevirtual 81, 3), (27, .goto 4, 3), (30, .iconst 0, 1), (31, .iadd, 1), (32, .istore_n 2, 1), (33, .iinc 3 1, 3), (36, .goto (-32), 3), (39, .iload_n 2, 1), (40, .ireturn, 1)]
set_option maxRecDepth 100000 in
theorem dtX2_lengthsOf : allD cX2_lengthsOf tbX2_lengthsOf = true := by decide +kernel
theorem dX2_lengthsOf_0 : decode cX2_lengthsOf 0 = .ok (.iconst 0, 1) := allD_get dtX2_lengthsOf 0 rfl
theorem dX2_lengthsOf_1 : decode cX2_lengthsOf 1 = .ok (.istore_n 2, 1) := allD_get dtX2_lengthsOf 1 rfl
theorem dX2_lengthsOf_2 : decode cX2_lengthsOf 2 = .ok (.iconst 0, 1) := allD_get dtX2_lengthsOf 2 rfl
theorem dX2_lengthsOf_3 : decode cX2_lengthsOf 3 = .ok (.istore_n 3, 1) := allD_get dtX2_lengthsOf 3 rfl
theorem dX2_lengthsOf_4 : decode cX2_lengthsOf 4 = .ok (.iload_n 3, 1) := allD_get dtX2_lengthsOf 4 rfl
theorem dX2_lengthsOf_5 : decode cX2_lengthsOf 5 = .ok (.aload_n 0, 1) := allD_get dtX2_lengthsOf 5 rfl
theorem dX2_lengthsOf_6 : decode cX2_lengthsOf 6 = .ok (.getfield 15, 3) := allD_get dtX2_lengthsOf 6 rfl
theorem dX2_lengthsOf_9 : decode cX2_lengthsOf 9 = .ok (.if_icmp .ge 30, 3) := allD_get dtX2_lengthsOf 7 rfl
theorem dX2_lengthsOf_12 : decode cX2_lengthsOf 12 = .ok (.iload_n 2, 1) := allD_get dtX2_lengthsOf 8 rfl
theorem dX2_lengthsOf_13 : decode cX2_lengthsOf 13 = .ok (.aload_n 0, 1) := allD_get dtX2_lengthsOf 9 rfl
theorem dX2_lengthsOf_14 : decode cX2_lengthsOf 14 = .ok (.iload_n 3, 1) := allD_get dtX2_lengthsOf 10 rfl
theorem dX2_lengthsOf_15 : decode cX2_lengthsOf 15 = .ok (.iload_n 1, 1) := allD_get dtX2_lengthsOf 11 rfl
theorem dX2_lengthsOf_16 : decode cX2_lengthsOf 16 = .ok (.invokevirtual 77, 3) := allD_get dtX2_lengthsOf 12 rfl
theorem dX2_lengthsOf_19 : decode cX2_lengthsOf 19 = .ok (.ifCond .eq 11, 3) := allD_get dtX2_lengthsOf 13 rfl
theorem dX2_lengthsOf_22 : decode cX2_lengthsOf 22 = .ok (.aload_n 0, 1) := allD_get dtX2_lengthsOf 14 rfl
theorem dX2_lengthsOf_23 : decode cX2_lengthsOf 23 = .ok (.iload_n 3, 1) := allD_get dtX2_lengthsOf 15 rfl
theorem dX2_lengthsOf_24 : decode cX2_lengthsOf 24 = .ok (.invokevirtual 81, 3) := allD_get dtX2_lengthsOf 16 rfl
theorem dX2_lengthsOf_27 : decode cX2_lengthsOf 27 = .ok (.goto 4, 3) := allD_get dtX2_lengthsOf 17 rfl
theorem dX2_lengthsOf_30 : decode cX2_lengthsOf 30 = .ok (.iconst 0, 1) := allD_get dtX2_lengthsOf 18 rfl
theorem dX2_lengthsOf_31 : decode cX2_lengthsOf 31 = .ok (.iadd, 1) := allD_get dtX2_lengthsOf 19 rfl
theorem dX2_lengthsOf_32 : decode cX2_lengthsOf 32 = .ok (.istore_n 2, 1) := allD_get dtX2_lengthsOf 20 rfl
theorem dX2_lengthsOf_33 : decode cX2_lengthsOf 33 = .ok (.iinc 3 1, 3) := allD_get dtX2_lengthsOf 21 rfl
theorem dX2_lengthsOf_36 : decode cX2_lengthsOf 36 = .ok (.goto (-32), 3) := allD_get dtX2_lengthsOf 22 rfl
theorem dX2_lengthsOf_39 : decode cX2_lengthsOf 39 = .ok (.iload_n 2, 1) := allD_get dtX2_lengthsOf 23 rfl
theorem dX2_lengthsOf_40 : decode cX2_lengthsOf 40 = .ok (.ireturn, 1) := allD_get dtX2_lengthsOf 24 rfl
