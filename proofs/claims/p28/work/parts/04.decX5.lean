/-! the instructions of X5's methods, by program -/
def tbX5_init : List (Nat × Instr × Nat) := [(0, .aload_n 0, 1), (1, .invokespecial 3, 3), (4, .aload_n 0, 1), (5, .bipush 24, 2), (7, .newarray .int, 2), (9, .putfield 9, 3), (12, .aload_n 0, 1), (13, .bipush 24, 2), (15, .newarray .int, 2), (17, .putfield 15, 3), (20, .return_, 1)]
set_option maxRecDepth 100000 in
theorem dtX5_init : allD cX5_init tbX5_init = true := by decide +kernel
theorem dX5_init_0 : decode cX5_init 0 = .ok (.aload_n 0, 1) := allD_get dtX5_init 0 rfl
theorem dX5_init_1 : decode cX5_init 1 = .ok (.invokespecial 3, 3) := allD_get dtX5_init 1 rfl
theorem dX5_init_4 : decode cX5_init 4 = .ok (.aload_n 0, 1) := allD_get dtX5_init 2 rfl
theorem dX5_init_5 : decode cX5_init 5 = .ok (.bipush 24, 2) := allD_get dtX5_init 3 rfl
theorem dX5_init_7 : decode cX5_init 7 = .ok (.newarray .int, 2) := allD_get dtX5_init 4 rfl
theorem dX5_init_9 : decode cX5_init 9 = .ok (.putfield 9, 3) := allD_get dtX5_init 5 rfl
theorem dX5_init_12 : decode cX5_init 12 = .ok (.aload_n 0, 1) := allD_get dtX5_init 6 rfl
theorem dX5_init_13 : decode cX5_init 13 = .ok (.bipush 24, 2) := allD_get dtX5_init 7 rfl
theorem dX5_init_15 : decode cX5_init 15 = .ok (.newarray .int, 2) := allD_get dtX5_init 8 rfl
theorem dX5_init_17 : decode cX5_init 17 = .ok (.putfield 15, 3) := allD_get dtX5_init 9 rfl
theorem dX5_init_20 : decode cX5_init 20 = .ok (.return_, 1) := allD_get dtX5_init 10 rfl
def tbX5_empty : List (Nat × Instr × Nat) := [(0, .aload_n 0, 1), (1, .iconst 0, 1), (2, .putfield 18, 3), (5, .return_, 1)]
set_option maxRecDepth 100000 in
theorem dtX5_empty : allD cX5_empty tbX5_empty = true := by decide +kernel
theorem dX5_empty_0 : decode cX5_empty 0 = .ok (.aload_n 0, 1) := allD_get dtX5_empty 0 rfl
theorem dX5_empty_1 : decode cX5_empty 1 = .ok (.iconst 0, 1) := allD_get dtX5_empty 1 rfl
theorem dX5_empty_2 : decode cX5_empty 2 = .ok (.putfield 18, 3) := allD_get dtX5_empty 2 rfl
theorem dX5_empty_5 : decode cX5_empty 5 = .ok (.return_, 1) := allD_get dtX5_empty 3 rfl
def tbX5_isLast : List (Nat × Instr × Nat) := [(0, .aload_n 0, 1), (1, .getfield 18, 3), (4, .ifCond .le 37, 3), (7, .aload_n 0, 1), (8, .getfield 9, 3), (11, .aload_n 0, 1), (12, .getfield 18, 3), (15, .iconst 1, 1), (16, .isub, 1), (17, .iaload, 1), (18, .iload_n 1, 1), (19, .if_icmp .ne 22, 3), (22, .aload_n 0, 1), (23, .getfield 15, 3), (26, .aload_n 0, 1), (27, .getfield 18, 3), (30, .iconst 1, 1), (31, .isub, 1), (32, .iaload, 1), (33, .iload_n 2, 1), (34, .if_icmp .ne 7, 3), (37, .iconst 1, 1), (38, .goto 4, 3), (41, .iconst 0, 1), (42, .ireturn, 1)]
set_option maxRecDepth 100000 in
theorem dtX5_isLast : allD cX5_isLast tbX5_isLast = true := by decide +kernel
theorem dX5_isLast_0 : decode cX5_isLast 0 = .ok (.aload_n 0, 1) := allD_get dtX5_isLast 0 rfl
theorem dX5_isLast_1 : decode cX5_isLast 1 = .ok (.getfield 18, 3) := allD_get dtX5_isLast 1 rfl
theorem dX5_isLast_4 : decode cX5_isLast 4 = .ok (.ifCond .le 37, 3) := allD_get dtX5_isLast 2 rfl
theorem dX5_isLast_7 : decode cX5_isLast 7 = .ok (.aload_n 0, 1) := allD_get dtX5_isLast 3 rfl
theorem dX5_isLast_8 : decode cX5_isLast 8 = .ok (.getfield 9, 3) := allD_get dtX5_isLast 4 rfl
theorem dX5_isLast_11 : decode cX5_isLast 11 = .ok (.aload_n 0, 1) := allD_get dtX5_isLast 5 rfl
theorem dX5_isLast_12 : decode cX5_isLast 12 = .ok (.getfield 18, 3) := allD_get dtX5_isLast 6 rfl
theorem dX5_isLast_15 : decode cX5_isLast 15 = .ok (.iconst 1, 1) := allD_get dtX5_isLast 7 rfl
theorem dX5_isLast_16 : decode cX5_isLast 16 = .ok (.isub, 1) := allD_get dtX5_isLast 8 rfl
theorem dX5_isLast_17 : decode cX5_isLast 17 = .ok (.iaload, 1) := allD_get dtX5_isLast 9 rfl
theorem dX5_isLast_18 : decode cX5_isLast 18 = .ok (.iload_n 1, 1) := allD_get dtX5_isLast 10 rfl
theorem dX5_isLast_19 : decode cX5_isLast 19 = .ok (.if_icmp .ne 22, 3) := allD_get dtX5_isLast 11 rfl
theorem dX5_isLast_22 : decode cX5_isLast 22 = .ok (.aload_n 0, 1) := allD_get dtX5_isLast 12 rfl
theorem dX5_isLast_23 : decode cX5_isLast 23 = .ok (.getfield 15, 3) := allD_get dtX5_isLast 13 rfl
theorem dX5_isLast_26 : decode cX5_isLast 26 = .ok (.aload_n 0, 1) := allD_get dtX5_isLast 14 rfl
theorem dX5_isLast_27 : decode cX5_isLast 27 = .ok (.getfield 18, 3) := allD_get dtX5_isLast 15 rfl
theorem dX5_isLast_30 : decode cX5_isLast 30 = .ok (.iconst 1, 1) := allD_get dtX5_isLast 16 rfl
theorem dX5_isLast_31 : decode cX5_isLast 31 = .ok (.isub, 1) := allD_get dtX5_isLast 17 rfl
theorem dX5_isLast_32 : decode cX5_isLast 32 = .ok (.iaload, 1) := allD_get dtX5_isLast 18 rfl
theorem dX5_isLast_33 : decode cX5_isLast 33 = .ok (.iload_n 2, 1) := allD_get dtX5_isLast 19 rfl
theorem dX5_isLast_34 : decode cX5_isLast 34 = .ok (.if_icmp .ne 7, 3) := allD_get dtX5_isLast 20 rfl
theorem dX5_isLast_37 : decode cX5_isLast 37 = .ok (.iconst 1, 1) := allD_get dtX5_isLast 21 rfl
theorem dX5_isLast_38 : decode cX5_isLast 38 = .ok (.goto 4, 3) := allD_get dtX5_isLast 22 rfl
theorem dX5_isLast_41 : decode cX5_isLast 41 = .ok (.iconst 0, 1) := allD_get dtX5_isLast 23 rfl
theorem dX5_isLast_42 : decode cX5_isLast 42 = .ok (.ireturn, 1) := allD_get dtX5_isLast 24 rfl
def tbX5_append : List (Nat × Instr × Nat) := [(0, .aload_n 0, 1), (1, .getfield 18, 3), (4, .bipush 24, 2), (6, .if_icmp .ge 42, 3), (9, .aload_n 0, 1), (10, .iload_n 1, 1), (11, .iload_n 2, 1), (12, .invokevirtual 22, 3), (15, .ifCond .ne 33, 3), (18, .aload_n 0, 1), (19, .getfield 9, 3), (22, .aload_n 0, 1), (23, .getfield 18, 3), (26, .iload_n 1, 1), (27, .iastore, 1), (28, .aload_n 0, 1), (29, .getfield 15, 3), (32, .aload_n 0, 1), (33, .getfield 18, 3), (36, .iload_n 2, 1), (37, .iastore, 1), (38, .aload_n 0, 1), (39, .dup, 1), (40, .getfield 18, 3), (43, .iconst 1, 1), (44, .iadd, 1), (45, .putfield 18, 3), (48, .return_, 1)]
set_option maxRecDepth 100000 in
theorem dtX5_append : allD cX5_append tbX5_append = true := by decide +kernel
theorem dX5_append_0 : decode cX5_append 0 = .ok (.aload_n 0, 1) := allD_get dtX5_append 0 rfl
theorem dX5_append_1 : decode cX5_append 1 = .ok (.getfield 18, 3) := allD_get dtX5_append 1 rfl
theorem dX5_append_4 : decode cX5_append 4 = .ok (.bipush 24, 2) := allD_get dtX5_append 2 rfl
theorem dX5_append_6 : decode cX5_append 6 = .ok (.if_icmp .ge 42, 3) := allD_get dtX5_append 3 rfl
theorem dX5_append_9 : decode cX5_append 9 = .ok (.aload_n 0, 1) := allD_get dtX5_append 4 rfl
theorem dX5_append_10 : decode cX5_append 10 = .ok (.iload_n 1, 1) := allD_get dtX5_append 5 rfl
theorem dX5_append_11 : decode cX5_append 11 = .ok (.iload_n 2, 1) := allD_get dtX5_append 6 rfl
theorem dX5_append_12 : decode cX5_append 12 = .ok (.invokevirtual 22, 3) := allD_get dtX5_append 7 rfl
theorem dX5_append_15 : decode cX5_append 15 = .ok (.ifCond .ne 33, 3) := allD_get dtX5_append 8 rfl
theorem dX5_append_18 : decode cX5_append 18 = .ok (.aload_n 0, 1) := allD_get dtX5_append 9 rfl
theorem dX5_append_19 : decode cX5_append 19 = .ok (.getfield 9, 3) := allD_get dtX5_append 10 rfl
theorem dX5_append_22 : decode cX5_append 22 = .ok (.aload_n 0, 1) := allD_get dtX5_append 11 rfl
theorem dX5_append_23 : decode cX5_append 23 = .ok (.getfield 18, 3) := allD_get dtX5_append 12 rfl
theorem dX5_append_26 : decode cX5_append 26 = .ok (.iload_n 1, 1) := allD_get dtX5_append 13 rfl
theorem dX5_append_27 : decode cX5_append 27 = .ok (.iastore, 1) := allD_get dtX5_append 14 rfl
theorem dX5_append_28 : decode cX5_append 28 = .ok (.aload_n 0, 1) := allD_get dtX5_append 15 rfl
theorem dX5_append_29 : decode cX5_append 29 = .ok (.getfield 15, 3) := allD_get dtX5_append 16 rfl
theorem dX5_append_32 : decode cX5_append 32 = .ok (.aload_n 0, 1) := allD_get dtX5_append 17 rfl
theorem dX5_append_33 : decode cX5_append 33 = .ok (.getfield 18, 3) := allD_get dtX5_append 18 rfl
theorem dX5_append_36 : decode cX5_append 36 = .ok (.iload_n 2, 1) := allD_get dtX5_append 19 rfl
theorem dX5_append_37 : decode cX5_append 37 = .ok (.iastore, 1) := allD_get dtX5_append 20 rfl
theorem dX5_append_38 : decode cX5_append 38 = .ok (.aload_n 0, 1) := allD_get dtX5_append 21 rfl
theorem dX5_append_39 : decode cX5_append 39 = .ok (.dup, 1) := allD_get dtX5_append 22 rfl
theorem dX5_append_40 : decode cX5_append 40 = .ok (.getfield 18, 3) := allD_get dtX5_append 23 rfl
theorem dX5_append_43 : decode cX5_append 43 = .ok (.iconst 1, 1) := allD_get dtX5_append 24 rfl
theorem dX5_append_44 : decode cX5_append 44 = .ok (.iadd, 1) := allD_get dtX5_append 25 rfl
theorem dX5_append_45 : decode cX5_append 45 = .ok (.putfield 18, 3) := allD_get dtX5_append 26 rfl
theorem dX5_append_48 : decode cX5_append 48 = .ok (.return_, 1) := allD_get dtX5_append 27 rfl
def tbX5_copy : List (Nat × Instr × Nat) := [(0, .aload_n 0, 1), (1, .aload_n 1, 1), (2, .getfield 18, 3), (5, .putfield 18, 3), (8, .aload_n 1, 1), (9, .getfield 9, 3), (12, .iconst 0, 1), (13, .aload_n 0, 1), (14, .getfield 9, 3), (17, .iconst 0, 1), (18, .bipush 24, 2), (20, .invokestatic 26, 3), (23, .aload_n 1, 1), (24, .getfield 15, 3), (27, .iconst 0, 1), (28, .aload_n 0, 1), (29, .getfield 15, 3), (32, .iconst 0, 1), (33, .bipush 24, 2), (35, .invokestatic 26, 3), (38, .return_, 1)]
set_option maxRecDepth 100000 in
theorem dtX5_copy : allD cX5_copy tbX5_copy = true := by decide +kernel
theorem dX5_copy_0 : decode cX5_copy 0 = .ok (.aload_n 0, 1) := allD_get dtX5_copy 0 rfl
theorem dX5_copy_1 : decode cX5_copy 1 = .ok (.aload_n 1, 1) := allD_get dtX5_copy 1 rfl
theorem dX5_copy_2 : decode cX5_copy 2 = .ok (.getfield 18, 3) := allD_get dtX5_copy 2 rfl
theorem dX5_copy_5 : decode cX5_copy 5 = .ok (.putfield 18, 3) := allD_get dtX5_copy 3 rfl
theorem dX5_copy_8 : decode cX5_copy 8 = .ok (.aload_n 1, 1) := allD_get dtX5_copy 4 rfl
theorem dX5_copy_9 : decode cX5_copy 9 = .ok (.getfield 9, 3) := allD_get dtX5_copy 5 rfl
theorem dX5_copy_12 : decode cX5_copy 12 = .ok (.iconst 0, 1) := allD_get dtX5_copy 6 rfl
theorem dX5_copy_13 : decode cX5_copy 13 = .ok (.aload_n 0, 1) := allD_get dtX5_copy 7 rfl
theorem dX5_copy_14 : decode cX5_copy 14 = .ok (.getfield 9, 3) := allD_get dtX5_copy 8 rfl
theorem dX5_copy_17 : decode cX5_copy 17 = .ok (.iconst 0, 1) := allD_get dtX5_copy 9 rfl
theorem dX5_copy_18 : decode cX5_copy 18 = .ok (.bipush 24, 2) := allD_get dtX5_copy 10 rfl
theorem dX5_copy_20 : decode cX5_copy 20 = .ok (.invokestatic 26, 3) := allD_get dtX5_copy 11 rfl
theorem dX5_copy_23 : decode cX5_copy 23 = .ok (.aload_n 1, 1) := allD_get dtX5_copy 12 rfl
theorem dX5_copy_24 : decode cX5_copy 24 = .ok (.getfield 15, 3) := allD_get dtX5_copy 13 rfl
theorem dX5_copy_27 : decode cX5_copy 27 = .ok (.iconst 0, 1) := allD_get dtX5_copy 14 rfl
theorem dX5_copy_28 : decode cX5_copy 28 = .ok (.aload_n 0, 1) := allD_get dtX5_copy 15 rfl
theorem dX5_copy_29 : decode cX5_copy 29 = .ok (.getfield 15, 3) := allD_get dtX5_copy 16 rfl
theorem dX5_copy_32 : decode cX5_copy 32 = .ok (.iconst 0, 1) := allD_get dtX5_copy 17 rfl
theorem dX5_copy_33 : decode cX5_copy 33 = .ok (.bipush 24, 2) := allD_get dtX5_copy 18 rfl
theorem dX5_copy_35 : decode cX5_copy 35 = .ok (.invokestatic 26, 3) := allD_get dtX5_copy 19 rfl
theorem dX5_copy_38 : decode cX5_copy 38 = .ok (.return_, 1) := allD_get dtX5_copy 20 rfl
def tbX5_take : List (Nat × Instr × Nat) := [(0, .aload_n 0, 1), (1, .iconst 0, 1), (2, .putfield 18, 3), (5, .iconst 0, 1), (6, .istore_n 3, 1), (7, .iload_n 3, 1), (8, .aload_n 1, 1), (9, .iload_n 2, 1), (10, .invokevirtual 32, 3), (13, .if_icmp .ge 25, 3), (16, .aload_n 0, 1), (17, .aload_n 1, 1), (18, .iload_n 2, 1), (19, .iload_n 3, 1), (20, .invokevirtual 37, 3), (23, .aload_n 1, 1), (24, .iload_n 2, 1), (25, .iload_n 3, 1), (26, .invokevirtual 41, 3), (29, .invokevirtual 44, 3), (32, .iinc 3 1, 3), (35, .goto (-28), 3), (38, .return_, 1)]
set_option maxRecDepth 100000 in
theorem dtX5_take : allD cX5_take tbX5_take = true := by decide +kernel
theorem dX5_take_0 : decode cX5_take 0 = .ok (.aload_n 0, 1) := allD_get dtX5_take 0 rfl
theorem dX5_take_1 : decode cX5_take 1 = .ok (.iconst 0, 1) := allD_get dtX5_take 1 rfl
theorem dX5_take_2 : decode cX5_take 2 = .ok (.putfield 18, 3) := allD_get dtX5_take 2 rfl
theorem dX5_take_5 : decode cX5_take 5 = .ok (.iconst 0, 1) := allD_get dtX5_take 3 rfl
theorem dX5_take_6 : decode cX5_take 6 = .ok (.istore_n 3, 1) := allD_get dtX5_take 4 rfl
theorem dX5_take_7 : decode cX5_take 7 = .ok (.iload_n 3, 1) := allD_get dtX5_take 5 rfl
theorem dX5_take_8 : decode cX5_take 8 = .ok (.aload_n 1, 1) := allD_get dtX5_take 6 rfl
theorem dX5_take_9 : decode cX5_take 9 = .ok (.iload_n 2, 1) := allD_get dtX5_take 7 rfl
theorem dX5_take_10 : decode cX5_take 10 = .ok (.invokevirtual 32, 3) := allD_get dtX5_take 8 rfl
theorem dX5_take_13 : decode cX5_take 13 = .ok (.if_icmp .ge 25, 3) := allD_get dtX5_take 9 rfl
theorem dX5_take_16 : decode cX5_take 16 = .ok (.aload_n 0, 1) := allD_get dtX5_take 10 rfl
theorem dX5_take_17 : decode cX5_take 17 = .ok (.aload_n 1, 1) := allD_get dtX5_take 11 rfl
theorem dX5_take_18 : decode cX5_take 18 = .ok (.iload_n 2, 1) := allD_get dtX5_take 12 rfl
theorem dX5_take_19 : decode cX5_take 19 = .ok (.iload_n 3, 1) := allD_get dtX5_take 13 rfl
theorem dX5_take_20 : decode cX5_take 20 = .ok (.invokevirtual 37, 3) := allD_get dtX5_take 14 rfl
theorem dX5_take_23 : decode cX5_take 23 = .ok (.aload_n 1, 1) := allD_get dtX5_take 15 rfl
theorem dX5_take_24 : decode cX5_take 24 = .ok (.iload_n 2, 1) := allD_get dtX5_take 16 rfl
theorem dX5_take_25 : decode cX5_take 25 = .ok (.iload_n 3, 1) := allD_get dtX5_take 17 rfl
theorem dX5_take_26 : decode cX5_take 26 = .ok (.invokevirtual 41, 3) := allD_get dtX5_take 18 rfl
theorem dX5_take_29 : decode cX5_take 29 = .ok (.invokevirtual 44, 3) := allD_get dtX5_take 19 rfl
theorem dX5_take_32 : decode cX5_take 32 = .ok (.iinc 3 1, 3) := allD_get dtX5_take 20 rfl
theorem dX5_take_35 : decode cX5_take 35 = .ok (.goto (-28), 3) := allD_get dtX5_take 21 rfl
theorem dX5_take_38 : decode cX5_take 38 = .ok (.return_, 1) := allD_get dtX5_take 22 rfl
def tbX5_smoothOnce : List (Nat × Instr × Nat) := [(0, .aload_n 0, 1), (1, .getfield 9, 3), (4, .iconst 0, 1), (5, .iaload, 1), (6, .istore_n 1, 1), (7, .aload_n 0, 1), (8, .getfield 15, 3), (11, .iconst 0, 1), (12, .iaload, 1), (13, .istore_n 2, 1), (14, .iconst 1, 1), (15, .istore_n 3, 1), (16, .iload_n 3, 1), (17, .aload_n 0, 1), (18, .getfield 18, 3), (21, .iconst 1, 1), (22, .isub, 1), (23, .if_icmp .ge 77, 3), (26, .aload_n 0, 1), (27, .getfield 9, 3), (30, .iload_n 3, 1), (31, .iaload, 1), (32, .istore 4, 2), (34, .aload_n 0, 1), (35, .getfield 15, 3), (38, .iload_n 3, 1), (39, .iaload, 1), (40, .istore 5, 2), (42, .aload_n 0, 1), (43, .getfield 9, 3), (46, .iload_n 3, 1), (47, .iload_n 1, 1), (48, .iconst 2, 1), (49, .iload 4, 2), (51, .imul, 1), (52, .iadd, 1), (53, .aload_n 0, 1), (54, .getfield 9, 3), (57, .iload_n 3, 1), (58, .iconst 1, 1), (59, .iadd, 1), (60, .iaload, 1), (61, .iadd, 1), (62, .iconst 4, 1), (63, .idiv, 1), (64, .iastore, 1), (65, .aload_n 0, 1), (66, .getfield 15, 3), (69, .iload_n 3, 1), (70, .iload_n 2, 1), (71, .iconst 2, 1), (72, .iload 5, 2), (74, .imul, 1), (75, .iadd, 1), (76, .aload_n 0, 1), (77, .getfield 15, 3), (80, .iload_n 3, 1), (81, .iconst 1, 1), (82, .iadd, 1), (83, .iaload, 1), (84, .iadd, 1), (85, .iconst 4, 1), (86, .idiv, 1), (87, .iastore, 1), (88, .iload 4, 2), (90, .istore_n 1, 1), (91, .iload 5, 2), (93, .istore_n 2, 1), (94, .iinc 3 1, 3), (97, .goto (-81), 3), (100, .return_, 1)]
set_option maxRecDepth 100000 in
theorem dtX5_smoothOnce : allD cX5_smoothOnce tbX5_smoothOnce = true := by decide +kernel
theorem dX5_smoothOnce_0 : decode cX5_smoothOnce 0 = .ok (.aload_n 0, 1) := allD_get dtX5_smoothOnce 0 rfl
theorem dX5_smoothOnce_1 : decode cX5_smoothOnce 1 = .ok (.getfield 9, 3) := allD_get dtX5_smoothOnce 1 rfl
theorem dX5_smoothOnce_4 : decode cX5_smoothOnce 4 = .ok (.iconst 0, 1) := allD_get dtX5_smoothOnce 2 rfl
theorem dX5_smoothOnce_5 : decode cX5_smoothOnce 5 = .ok (.iaload, 1) := allD_get dtX5_smoothOnce 3 rfl
theorem dX5_smoothOnce_6 : decode cX5_smoothOnce 6 = .ok (.istore_n 1, 1) := allD_get dtX5_smoothOnce 4 rfl
theorem dX5_smoothOnce_7 : decode cX5_smoothOnce 7 = .ok (.aload_n 0, 1) := allD_get dtX5_smoothOnce 5 rfl
theorem dX5_smoothOnce_8 : decode cX5_smoothOnce 8 = .ok (.getfield 15, 3) := allD_get dtX5_smoothOnce 6 rfl
theorem dX5_smoothOnce_11 : decode cX5_smoothOnce 11 = .ok (.iconst 0, 1) := allD_get dtX5_smoothOnce 7 rfl
theorem dX5_smoothOnce_12 : decode cX5_smoothOnce 12 = .ok (.iaload, 1) := allD_get dtX5_smoothOnce 8 rfl
theorem dX5_smoothOnce_13 : decode cX5_smoothOnce 13 = .ok (.istore_n 2, 1) := allD_get dtX5_smoothOnce 9 rfl
theorem dX5_smoothOnce_14 : decode cX5_smoothOnce 14 = .ok (.iconst 1, 1) := allD_get dtX5_smoothOnce 10 rfl
theorem dX5_smoothOnce_15 : decode cX5_smoothOnce 15 = .ok (.istore_n 3, 1) := allD_get dtX5_smoothOnce 11 rfl
theorem dX5_smoothOnce_16 : decode cX5_smoothOnce 16 = .ok (.iload_n 3, 1) := allD_get dtX5_smoothOnce 12 rfl
theorem dX5_smoothOnce_17 : decode cX5_smoothOnce 17 = .ok (.aload_n 0, 1) := allD_get dtX5_smoothOnce 13 rfl
theorem dX5_smoothOnce_18 : decode cX5_smoothOnce 18 = .ok (.getfield 18, 3) := allD_get dtX5_smoothOnce 14 rfl
theorem dX5_smoothOnce_21 : decode cX5_smoothOnce 21 = .ok (.iconst 1, 1) := allD_get dtX5_smoothOnce 15 rfl
theorem dX5_smoothOnce_22 : decode cX5_smoothOnce 22 = .ok (.isub, 1) := allD_get dtX5_smoothOnce 16 rfl
theorem dX5_smoothOnce_23 : decode cX5_smoothOnce 23 = .ok (.if_icmp .ge 77, 3) := allD_get dtX5_smoothOnce 17 rfl
theorem dX5_smoothOnce_26 : decode cX5_smoothOnce 26 = .ok (.aload_n 0, 1) := allD_get dtX5_smoothOnce 18 rfl
theorem dX5_smoothOnce_27 : decode cX5_smoothOnce 27 = .ok (.getfield 9, 3) := allD_get dtX5_smoothOnce 19 rfl
theorem dX5_smoothOnce_30 : decode cX5_smoothOnce 30 = .ok (.iload_n 3, 1) := allD_get dtX5_smoothOnce 20 rfl
theorem dX5_smoothOnce_31 : decode cX5_smoothOnce 31 = .ok (.iaload, 1) := allD_get dtX5_smoothOnce 21 rfl
theorem dX5_smoothOnce_32 : decode cX5_smoothOnce 32 = .ok (.istore 4, 2) := allD_get dtX5_smoothOnce 22 rfl
theorem dX5_smoothOnce_34 : decode cX5_smoothOnce 34 = .ok (.aload_n 0, 1) := allD_get dtX5_smoothOnce 23 rfl
theorem dX5_smoothOnce_35 : decode cX5_smoothOnce 35 = .ok (.getfield 15, 3) := allD_get dtX5_smoothOnce 24 rfl
theorem dX5_smoothOnce_38 : decode cX5_smoothOnce 38 = .ok (.iload_n 3, 1) := allD_get dtX5_smoothOnce 25 rfl
theorem dX5_smoothOnce_39 : decode cX5_smoothOnce 39 = .ok (.iaload, 1) := allD_get dtX5_smoothOnce 26 rfl
theorem dX5_smoothOnce_40 : decode cX5_smoothOnce 40 = .ok (.istore 5, 2) := allD_get dtX5_smoothOnce 27 rfl
theorem dX5_smoothOnce_42 : decode cX5_smoothOnce 42 = .ok (.aload_n 0, 1) := allD_get dtX5_smoothOnce 28 rfl
theorem dX5_smoothOnce_43 : decode cX5_smoothOnce 43 = .ok (.getfield 9, 3) := allD_get dtX5_smoothOnce 29 rfl
theorem dX5_smoothOnce_46 : decode cX5_smoothOnce 46 = .ok (.iload_n 3, 1) := allD_get dtX5_smoothOnce 30 rfl
theorem dX5_smoothOnce_47 : decode cX5_smoothOnce 47 = .ok (.iload_n 1, 1) := allD_get dtX5_smoothOnce 31 rfl
theorem dX5_smoothOnce_48 : decode cX5_smoothOnce 48 = .ok (.iconst 2, 1) := allD_get dtX5_smoothOnce 32 rfl
theorem dX5_smoothOnce_49 : decode cX5_smoothOnce 49 = .ok (.iload 4, 2) := allD_get dtX5_smoothOnce 33 rfl
theorem dX5_smoothOnce_51 : decode cX5_smoothOnce 51 = .ok (.imul, 1) := allD_get dtX5_smoothOnce 34 rfl
theorem dX5_smoothOnce_52 : decode cX5_smoothOnce 52 = .ok (.iadd, 1) := allD_get dtX5_smoothOnce 35 rfl
theorem dX5_smoothOnce_53 : decode cX5_smoothOnce 53 = .ok (.aload_n 0, 1) := allD_get dtX5_smoothOnce 36 rfl
theorem dX5_smoothOnce_54 : decode cX5_smoothOnce 54 = .ok (.getfield 9, 3) := allD_get dtX5_smoothOnce 37 rfl
theorem dX5_smoothOnce_57 : decode cX5_smoothOnce 57 = .ok (.iload_n 3, 1) := allD_get dtX5_smoothOnce 38 rfl
theorem dX5_smoothOnce_58 : decode cX5_smoothOnce 58 = .ok (.iconst 1, 1) := allD_get dtX5_smoothOnce 39 rfl
theorem dX5_smoothOnce_59 : decode cX5_smoothOnce 59 = .ok (.iadd, 1) := allD_get dtX5_smoothOnce 40 rfl
theorem dX5_smoothOnce_60 : decode cX5_smoothOnce 60 = .ok (.iaload, 1) := allD_get dtX5_smoothOnce 41 rfl
theorem dX5_smoothOnce_61 : decode cX5_smoothOnce 61 = .ok (.iadd, 1) := allD_get dtX5_smoothOnce 42 rfl
theorem dX5_smoothOnce_62 : decode cX5_smoothOnce 62 = .ok (.iconst 4, 1) := allD_get dtX5_smoothOnce 43 rfl
theorem dX5_smoothOnce_63 : decode cX5_smoothOnce 63 = .ok (.idiv, 1) := allD_get dtX5_smoothOnce 44 rfl
theorem dX5_smoothOnce_64 : decode cX5_smoothOnce 64 = .ok (.iastore, 1) := allD_get dtX5_smoothOnce 45 rfl
theorem dX5_smoothOnce_65 : decode cX5_smoothOnce 65 = .ok (.aload_n 0, 1) := allD_get dtX5_smoothOnce 46 rfl
theorem dX5_smoothOnce_66 : decode cX5_smoothOnce 66 = .ok (.getfield 15, 3) := allD_get dtX5_smoothOnce 47 rfl
theorem dX5_smoothOnce_69 : decode cX5_smoothOnce 69 = .ok (.iload_n 3, 1) := allD_get dtX5_smoothOnce 48 rfl
theorem dX5_smoothOnce_70 : decode cX5_smoothOnce 70 = .ok (.iload_n 2, 1) := allD_get dtX5_smoothOnce 49 rfl
theorem dX5_smoothOnce_71 : decode cX5_smoothOnce 71 = .ok (.iconst 2, 1) := allD_get dtX5_smoothOnce 50 rfl
theorem dX5_smoothOnce_72 : decode cX5_smoothOnce 72 = .ok (.iload 5, 2) := allD_get dtX5_smoothOnce 51 rfl
theorem dX5_smoothOnce_74 : decode cX5_smoothOnce 74 = .ok (.imul, 1) := allD_get dtX5_smoothOnce 52 rfl
theorem dX5_smoothOnce_75 : decode cX5_smoothOnce 75 = .ok (.iadd, 1) := allD_get dtX5_smoothOnce 53 rfl
theorem dX5_smoothOnce_76 : decode cX5_smoothOnce 76 = .ok (.aload_n 0, 1) := allD_get dtX5_smoothOnce 54 rfl
theorem dX5_smoothOnce_77 : decode cX5_smoothOnce 77 = .ok (.getfield 15, 3) := allD_get dtX5_smoothOnce 55 rfl
theorem dX5_smoothOnce_80 : decode cX5_smoothOnce 80 = .ok (.iload_n 3, 1) := allD_get dtX5_smoothOnce 56 rfl
theorem dX5_smoothOnce_81 : decode cX5_smoothOnce 81 = .ok (.iconst 1, 1) := allD_get dtX5_smoothOnce 57 rfl
theorem dX5_smoothOnce_82 : decode cX5_smoothOnce 82 = .ok (.iadd, 1) := allD_get dtX5_smoothOnce 58 rfl
theorem dX5_smoothOnce_83 : decode cX5_smoothOnce 83 = .ok (.iaload, 1) := allD_get dtX5_smoothOnce 59 rfl
theorem dX5_smoothOnce_84 : decode cX5_smoothOnce 84 = .ok (.iadd, 1) := allD_get dtX5_smoothOnce 60 rfl
theorem dX5_smoothOnce_85 : decode cX5_smoothOnce 85 = .ok (.iconst 4, 1) := allD_get dtX5_smoothOnce 61 rfl
theorem dX5_smoothOnce_86 : decode cX5_smoothOnce 86 = .ok (.idiv, 1) := allD_get dtX5_smoothOnce 62 rfl
theorem dX5_smoothOnce_87 : decode cX5_smoothOnce 87 = .ok (.iastore, 1) := allD_get dtX5_smoothOnce 63 rfl
theorem dX5_smoothOnce_88 : decode cX5_smoothOnce 88 = .ok (.iload 4, 2) := allD_get dtX5_smoothOnce 64 rfl
theorem dX5_smoothOnce_90 : decode cX5_smoothOnce 90 = .ok (.istore_n 1, 1) := allD_get dtX5_smoothOnce 65 rfl
theorem dX5_smoothOnce_91 : decode cX5_smoothOnce 91 = .ok (.iload 5, 2) := allD_get dtX5_smoothOnce 66 rfl
theorem dX5_smoothOnce_93 : decode cX5_smoothOnce 93 = .ok (.istore_n 2, 1) := allD_get dtX5_smoothOnce 67 rfl
theorem dX5_smoothOnce_94 : decode cX5_smoothOnce 94 = .ok (.iinc 3 1, 3) := allD_get dtX5_smoothOnce 68 rfl
theorem dX5_smoothOnce_97 : decode cX5_smoothOnce 97 = .ok (.goto (-81), 3) := allD_get dtX5_smoothOnce 69 rfl
theorem dX5_smoothOnce_100 : decode cX5_smoothOnce 100 = .ok (.return_, 1) := allD_get dtX5_smoothOnce 70 rfl
def tbX5_dropRepeats : List (Nat × Instr × Nat) := [(0, .aload_n 0, 1), (1, .getfield 18, 3), (4, .istore_n 1, 1), (5, .aload_n 0, 1), (6, .iconst 0, 1), (7, .putfield 18, 3), (10, .iconst 0, 1), (11, .istore_n 2, 1), (12, .iload_n 2, 1), (13, .iload_n 1, 1), (14, .if_icmp .ge 25, 3), (17, .aload_n 0, 1), (18, .aload_n 0, 1), (19, .getfield 9, 3), (22, .iload_n 2, 1), (23, .iaload, 1), (24, .aload_n 0, 1), (25, .getfield 15, 3), (28, .iload_n 2, 1), (29, .iaload, 1), (30, .invokevirtual 44, 3), (33, .iinc 2 1, 3), (36, .goto (-24), 3), (39, .return_, 1)]
set_option maxRecDepth 100000 in
theorem dtX5_dropRepeats : allD cX5_dropRepeats tbX5_dropRepeats = true := by decide +kernel
theorem dX5_dropRepeats_0 : decode cX5_dropRepeats 0 = .ok (.aload_n 0, 1) := allD_get dtX5_dropRepeats 0 rfl
theorem dX5_dropRepeats_1 : decode cX5_dropRepeats 1 = .ok (.getfield 18, 3) := allD_get dtX5_dropRepeats 1 rfl
theorem dX5_dropRepeats_4 : decode cX5_dropRepeats 4 = .ok (.istore_n 1, 1) := allD_get dtX5_dropRepeats 2 rfl
theorem dX5_dropRepeats_5 : decode cX5_dropRepeats 5 = .ok (.aload_n 0, 1) := allD_get dtX5_dropRepeats 3 rfl
theorem dX5_dropRepeats_6 : decode cX5_dropRepeats 6 = .ok (.iconst 0, 1) := allD_get dtX5_dropRepeats 4 rfl
theorem dX5_dropRepeats_7 : decode cX5_dropRepeats 7 = .ok (.putfield 18, 3) := allD_get dtX5_dropRepeats 5 rfl
theorem dX5_dropRepeats_10 : decode cX5_dropRepeats 10 = .ok (.iconst 0, 1) := allD_get dtX5_dropRepeats 6 rfl
theorem dX5_dropRepeats_11 : decode cX5_dropRepeats 11 = .ok (.istore_n 2, 1) := allD_get dtX5_dropRepeats 7 rfl
theorem dX5_dropRepeats_12 : decode cX5_dropRepeats 12 = .ok (.iload_n 2, 1) := allD_get dtX5_dropRepeats 8 rfl
theorem dX5_dropRepeats_13 : decode cX5_dropRepeats 13 = .ok (.iload_n 1, 1) := allD_get dtX5_dropRepeats 9 rfl
theorem dX5_dropRepeats_14 : decode cX5_dropRepeats 14 = .ok (.if_icmp .ge 25, 3) := allD_get dtX5_dropRepeats 10 rfl
theorem dX5_dropRepeats_17 : decode cX5_dropRepeats 17 = .ok (.aload_n 0, 1) := allD_get dtX5_dropRepeats 11 rfl
theorem dX5_dropRepeats_18 : decode cX5_dropRepeats 18 = .ok (.aload_n 0, 1) := allD_get dtX5_dropRepeats 12 rfl
theorem dX5_dropRepeats_19 : decode cX5_dropRepeats 19 = .ok (.getfield 9, 3) := allD_get dtX5_dropRepeats 13 rfl
theorem dX5_dropRepeats_22 : decode cX5_dropRepeats 22 = .ok (.iload_n 2, 1) := allD_get dtX5_dropRepeats 14 rfl
theorem dX5_dropRepeats_23 : decode cX5_dropRepeats 23 = .ok (.iaload, 1) := allD_get dtX5_dropRepeats 15 rfl
theorem dX5_dropRepeats_24 : decode cX5_dropRepeats 24 = .ok (.aload_n 0, 1) := allD_get dtX5_dropRepeats 16 rfl
theorem dX5_dropRepeats_25 : decode cX5_dropRepeats 25 = .ok (.getfield 15, 3) := allD_get dtX5_dropRepeats 17 rfl
theorem dX5_dropRepeats_28 : decode cX5_dropRepeats 28 = .ok (.iload_n 2, 1) := allD_get dtX5_dropRepeats 18 rfl
theorem dX5_dropRepeats_29 : decode cX5_dropRepeats 29 = .ok (.iaload, 1) := allD_get dtX5_dropRepeats 19 rfl
theorem dX5_dropRepeats_30 : decode cX5_dropRepeats 30 = .ok (.invokevirtual 44, 3) := allD_get dtX5_dropRepeats 20 rfl
theorem dX5_dropRepeats_33 : decode cX5_dropRepeats 33 = .ok (.iinc 2 1, 3) := allD_get dtX5_dropRepeats 21 rfl
theorem dX5_dropRepeats_36 : decode cX5_dropRepeats 36 = .ok (.goto (-24), 3) := allD_get dtX5_dropRepeats 22 rfl
theorem dX5_dropRepeats_39 : decode cX5_dropRepeats 39 = .ok (.return_, 1) := allD_get dtX5_dropRepeats 23 rfl
def tbX5_dropNear : List (Nat × Instr × Nat) := [(0, .aload_n 0, 1), (1, .getfield 18, 3), (4, .iconst 1, 1), (5, .isub, 1), (6, .istore_n 2, 1), (7, .iload_n 2, 1), (8, .iconst 1, 1), (9, .if_icmp .ge 4, 3), (12, .return_, 1), (13, .aload_n 0, 1), (14, .iconst 1, 1), (15, .putfield 18, 3), (18, .iconst 1, 1), (19, .istore_n 3, 1), (20, .iload_n 3, 1), (21, .iload_n 2, 1), (22, .if_icmp .ge 70, 3), (25, .aload_n 0, 1), (26, .getfield 9, 3), (29, .iload_n 3, 1), (30, .iaload, 1), (31, .aload_n 0, 1), (32, .getfield 9, 3), (35, .aload_n 0, 1), (36, .getfield 18, 3), (39, .iconst 1, 1), (40, .isub, 1), (41, .iaload, 1), (42, .isub, 1), (43, .aload_n 0, 1), (44, .getfield 15, 3), (47, .iload_n 3, 1), (48, .iaload, 1), (49, .aload_n 0, 1), (50, .getfield 15, 3), (53, .aload_n 0, 1), (54, .getfield 18, 3), (57, .iconst 1, 1), (58, .isub, 1), (59, .iaload, 1), (60, .isub, 1), (61, .invokestatic 48, 3), (64, .iload_n 1, 1), (65, .iload_n 1, 1), (66, .imul, 1), (67, .if_icmp .lt 19, 3), (70, .aload_n 0, 1), (71, .aload_n 0, 1), (72, .getfield 9, 3), (75, .iload_n 3, 1), (76, .iaload, 1), (77, .aload_n 0, 1), (78, .getfield 15, 3), (81, .iload_n 3, 1), (82, .iaload, 1), (83, .invokevirtual 44, 3), (86, .iinc 3 1, 3), (89, .goto (-69), 3), (92, .aload_n 0, 1), (93, .aload_n 0, 1), (94, .getfield 9, 3), (97, .iload_n 2, 1), (98, .iaload, 1), (99, .aload_n 0, 1), (100, .getfield 15, 3), (103, .iload_n 2, 1), (104, .iaload, 1), (105, .invokevirtual 44, 3), (108, .return_, 1)]
set_option maxRecDepth 100000 in
theorem dtX5_dropNear : allD cX5_dropNear tbX5_dropNear = true := by decide +kernel
theorem dX5_dropNear_0 : decode cX5_dropNear 0 = .ok (.aload_n 0, 1) := allD_get dtX5_dropNear 0 rfl
theorem dX5_dropNear_1 : decode cX5_dropNear 1 = .ok (.getfield 18, 3) := allD_get dtX5_dropNear 1 rfl
theorem dX5_dropNear_4 : decode cX5_dropNear 4 = .ok (.iconst 1, 1) := allD_get dtX5_dropNear 2 rfl
theorem dX5_dropNear_5 : decode cX5_dropNear 5 = .ok (.isub, 1) := allD_get dtX5_dropNear 3 rfl
theorem dX5_dropNear_6 : decode cX5_dropNear 6 = .ok (.istore_n 2, 1) := allD_get dtX5_dropNear 4 rfl
theorem dX5_dropNear_7 : decode cX5_dropNear 7 = .ok (.iload_n 2, 1) := allD_get dtX5_dropNear 5 rfl
theorem dX5_dropNear_8 : decode cX5_dropNear 8 = .ok (.iconst 1, 1) := allD_get dtX5_dropNear 6 rfl
theorem dX5_dropNear_9 : decode cX5_dropNear 9 = .ok (.if_icmp .ge 4, 3) := allD_get dtX5_dropNear 7 rfl
theorem dX5_dropNear_12 : decode cX5_dropNear 12 = .ok (.return_, 1) := allD_get dtX5_dropNear 8 rfl
theorem dX5_dropNear_13 : decode cX5_dropNear 13 = .ok (.aload_n 0, 1) := allD_get dtX5_dropNear 9 rfl
theorem dX5_dropNear_14 : decode cX5_dropNear 14 = .ok (.iconst 1, 1) := allD_get dtX5_dropNear 10 rfl
theorem dX5_dropNear_15 : decode cX5_dropNear 15 = .ok (.putfield 18, 3) := allD_get dtX5_dropNear 11 rfl
theorem dX5_dropNear_18 : decode cX5_dropNear 18 = .ok (.iconst 1, 1) := allD_get dtX5_dropNear 12 rfl
theorem dX5_dropNear_19 : decode cX5_dropNear 19 = .ok (.istore_n 3, 1) := allD_get dtX5_dropNear 13 rfl
theorem dX5_dropNear_20 : decode cX5_dropNear 20 = .ok (.iload_n 3, 1) := allD_get dtX5_dropNear 14 rfl
theorem dX5_dropNear_21 : decode cX5_dropNear 21 = .ok (.iload_n 2, 1) := allD_get dtX5_dropNear 15 rfl
theorem dX5_dropNear_22 : decode cX5_dropNear 22 = .ok (.if_icmp .ge 70, 3) := allD_get dtX5_dropNear 16 rfl
theorem dX5_dropNear_25 : decode cX5_dropNear 25 = .ok (.aload_n 0, 1) := allD_get dtX5_dropNear 17 rfl
theorem dX5_dropNear_26 : decode cX5_dropNear 26 = .ok (.getfield 9, 3) := allD_get dtX5_dropNear 18 rfl
theorem dX5_dropNear_29 : decode cX5_dropNear 29 = .ok (.iload_n 3, 1) := allD_get dtX5_dropNear 19 rfl
theorem dX5_dropNear_30 : decode cX5_dropNear 30 = .ok (.iaload, 1) := allD_get dtX5_dropNear 20 rfl
theorem dX5_dropNear_31 : decode cX5_dropNear 31 = .ok (.aload_n 0, 1) := allD_get dtX5_dropNear 21 rfl
theorem dX5_dropNear_32 : decode cX5_dropNear 32 = .ok (.getfield 9, 3) := allD_get dtX5_dropNear 22 rfl
theorem dX5_dropNear_35 : decode cX5_dropNear 35 = .ok (.aload_n 0, 1) := allD_get dtX5_dropNear 23 rfl
theorem dX5_dropNear_36 : decode cX5_dropNear 36 = .ok (.getfield 18, 3) := allD_get dtX5_dropNear 24 rfl
theorem dX5_dropNear_39 : decode cX5_dropNear 39 = .ok (.iconst 1, 1) := allD_get dtX5_dropNear 25 rfl
theorem dX5_dropNear_40 : decode cX5_dropNear 40 = .ok (.isub, 1) := allD_get dtX5_dropNear 26 rfl
theorem dX5_dropNear_41 : decode cX5_dropNear 41 = .ok (.iaload, 1) := allD_get dtX5_dropNear 27 rfl
theorem dX5_dropNear_42 : decode cX5_dropNear 42 = .ok (.isub, 1) := allD_get dtX5_dropNear 28 rfl
theorem dX5_dropNear_43 : decode cX5_dropNear 43 = .ok (.aload_n 0, 1) := allD_get dtX5_dropNear 29 rfl
theorem dX5_dropNear_44 : decode cX5_dropNear 44 = .ok (.getfield 15, 3) := allD_get dtX5_dropNear 30 rfl
theorem dX5_dropNear_47 : decode cX5_dropNear 47 = .ok (.iload_n 3, 1) := allD_get dtX5_dropNear 31 rfl
theorem dX5_dropNear_48 : decode cX5_dropNear 48 = .ok (.iaload, 1) := allD_get dtX5_dropNear 32 rfl
theorem dX5_dropNear_49 : decode cX5_dropNear 49 = .ok (.aload_n 0, 1) := allD_get dtX5_dropNear 33 rfl
theorem dX5_dropNear_50 : decode cX5_dropNear 50 = .ok (.getfield 15, 3) := allD_get dtX5_dropNear 34 rfl
theorem dX5_dropNear_53 : decode cX5_dropNear 53 = .ok (.aload_n 0, 1) := allD_get dtX5_dropNear 35 rfl
theorem dX5_dropNear_54 : decode cX5_dropNear 54 = .ok (.getfield 18, 3) := allD_get dtX5_dropNear 36 rfl
theorem dX5_dropNear_57 : decode cX5_dropNear 57 = .ok (.iconst 1, 1) := allD_get dtX5_dropNear 37 rfl
theorem dX5_dropNear_58 : decode cX5_dropNear 58 = .ok (.isub, 1) := allD_get dtX5_dropNear 38 rfl
theorem dX5_dropNear_59 : decode cX5_dropNear 59 = .ok (.iaload, 1) := allD_get dtX5_dropNear 39 rfl
theorem dX5_dropNear_60 : decode cX5_dropNear 60 = .ok (.isub, 1) := allD_get dtX5_dropNear 40 rfl
theorem dX5_dropNear_61 : decode cX5_dropNear 61 = .ok (.invokestatic 48, 3) := allD_get dtX5_dropNear 41 rfl
theorem dX5_dropNear_64 : decode cX5_dropNear 64 = .ok (.iload_n 1, 1) := allD_get dtX5_dropNear 42 rfl
theorem dX5_dropNear_65 : decode cX5_dropNear 65 = .ok (.iload_n 1, 1) := allD_get dtX5_dropNear 43 rfl
theorem dX5_dropNear_66 : decode cX5_dropNear 66 = .ok (.imul, 1) := allD_get dtX5_dropNear 44 rfl
theorem dX5_dropNear_67 : decode cX5_dropNear 67 = .ok (.if_icmp .lt 19, 3) := allD_get dtX5_dropNear 45 rfl
theorem dX5_dropNear_70 : decode cX5_dropNear 70 = .ok (.aload_n 0, 1) := allD_get dtX5_dropNear 46 rfl
theorem dX5_dropNear_71 : decode cX5_dropNear 71 = .ok (.aload_n 0, 1) := allD_get dtX5_dropNear 47 rfl
theorem dX5_dropNear_72 : decode cX5_dropNear 72 = .ok (.getfield 9, 3) := allD_get dtX5_dropNear 48 rfl
theorem dX5_dropNear_75 : decode cX5_dropNear 75 = .ok (.iload_n 3, 1) := allD_get dtX5_dropNear 49 rfl
theorem dX5_dropNear_76 : decode cX5_dropNear 76 = .ok (.iaload, 1) := allD_get dtX5_dropNear 50 rfl
theorem dX5_dropNear_77 : decode cX5_dropNear 77 = .ok (.aload_n 0, 1) := allD_get dtX5_dropNear 51 rfl
theorem dX5_dropNear_78 : decode cX5_dropNear 78 = .ok (.getfield 15, 3) := allD_get dtX5_dropNear 52 rfl
theorem dX5_dropNear_81 : decode cX5_dropNear 81 = .ok (.iload_n 3, 1) := allD_get dtX5_dropNear 53 rfl
theorem dX5_dropNear_82 : decode cX5_dropNear 82 = .ok (.iaload, 1) := allD_get dtX5_dropNear 54 rfl
theorem dX5_dropNear_83 : decode cX5_dropNear 83 = .ok (.invokevirtual 44, 3) := allD_get dtX5_dropNear 55 rfl
theorem dX5_dropNear_86 : decode cX5_dropNear 86 = .ok (.iinc 3 1, 3) := allD_get dtX5_dropNear 56 rfl
theorem dX5_dropNear_89 : decode cX5_dropNear 89 = .ok (.goto (-69), 3) := allD_get dtX5_dropNear 57 rfl
theorem dX5_dropNear_92 : decode cX5_dropNear 92 = .ok (.aload_n 0, 1) := allD_get dtX5_dropNear 58 rfl
theorem dX5_dropNear_93 : decode cX5_dropNear 93 = .ok (.aload_n 0, 1) := allD_get dtX5_dropNear 59 rfl
theorem dX5_dropNear_94 : decode cX5_dropNear 94 = .ok (.getfield 9, 3) := allD_get dtX5_dropNear 60 rfl
theorem dX5_dropNear_97 : decode cX5_dropNear 97 = .ok (.iload_n 2, 1) := allD_get dtX5_dropNear 61 rfl
theorem dX5_dropNear_98 : decode cX5_dropNear 98 = .ok (.iaload, 1) := allD_get dtX5_dropNear 62 rfl
theorem dX5_dropNear_99 : decode cX5_dropNear 99 = .ok (.aload_n 0, 1) := allD_get dtX5_dropNear 63 rfl
theorem dX5_dropNear_100 : decode cX5_dropNear 100 = .ok (.getfield 15, 3) := allD_get dtX5_dropNear 64 rfl
theorem dX5_dropNear_103 : decode cX5_dropNear 103 = .ok (.iload_n 2, 1) := allD_get dtX5_dropNear 65 rfl
theorem dX5_dropNear_104 : decode cX5_dropNear 104 = .ok (.iaload, 1) := allD_get dtX5_dropNear 66 rfl
theorem dX5_dropNear_105 : decode cX5_dropNear 105 = .ok (.invokevirtual 44, 3) := allD_get dtX5_dropNear 67 rfl
theorem dX5_dropNear_108 : decode cX5_dropNear 108 = .ok (.return_, 1) := allD_get dtX5_dropNear 68 rfl
