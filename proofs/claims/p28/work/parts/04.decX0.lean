/-! the instructions of X0's methods, by program -/
def tbX0_init : List (Nat × Instr × Nat) := [(0, .aload_n 0, 1), (1, .invokespecial 3, 3), (4, .aload_n 0, 1), (5, .bipush 7, 2), (7, .newarray .int, 2), (9, .putfield 11, 3), (12, .aload_n 0, 1), (13, .sipush 5600, 3), (16, .newarray .int, 2), (18, .putfield 15, 3), (21, .return_, 1)]
set_option maxRecDepth 100000 in
theorem dtX0_init : allD cX0_init tbX0_init = true := by decide +kernel
theorem dX0_init_0 : decode cX0_init 0 = .ok (.aload_n 0, 1) := allD_get dtX0_init 0 rfl
theorem dX0_init_1 : decode cX0_init 1 = .ok (.invokespecial 3, 3) := allD_get dtX0_init 1 rfl
theorem dX0_init_4 : decode cX0_init 4 = .ok (.aload_n 0, 1) := allD_get dtX0_init 2 rfl
theorem dX0_init_5 : decode cX0_init 5 = .ok (.bipush 7, 2) := allD_get dtX0_init 3 rfl
theorem dX0_init_7 : decode cX0_init 7 = .ok (.newarray .int, 2) := allD_get dtX0_init 4 rfl
theorem dX0_init_9 : decode cX0_init 9 = .ok (.putfield 11, 3) := allD_get dtX0_init 5 rfl
theorem dX0_init_12 : decode cX0_init 12 = .ok (.aload_n 0, 1) := allD_get dtX0_init 6 rfl
theorem dX0_init_13 : decode cX0_init 13 = .ok (.sipush 5600, 3) := allD_get dtX0_init 7 rfl
theorem dX0_init_16 : decode cX0_init 16 = .ok (.newarray .int, 2) := allD_get dtX0_init 8 rfl
theorem dX0_init_18 : decode cX0_init 18 = .ok (.putfield 15, 3) := allD_get dtX0_init 9 rfl
theorem dX0_init_21 : decode cX0_init 21 = .ok (.return_, 1) := allD_get dtX0_init 10 rfl
def tbX0_record : List (Nat × Instr × Nat) := [(0, .aload_n 0, 1), (1, .aload_n 0, 1), (2, .getfield 18, 3), (5, .bipush 6, 2), (7, .if_icmp .ne 7, 3), (10, .iconst 0, 1), (11, .goto 9, 3), (14, .aload_n 0, 1), (15, .getfield 18, 3), (18, .iconst 1, 1), (19, .iadd, 1), (20, .putfield 18, 3), (23, .aload_n 0, 1), (24, .aload_n 0, 1), (25, .getfield 22, 3), (28, .iconst 1, 1), (29, .iadd, 1), (30, .bipush 6, 2), (32, .invokestatic 25, 3), (35, .putfield 22, 3), (38, .aload_n 0, 1), (39, .iconst 0, 1), (40, .putfield 31, 3), (43, .aload_n 0, 1), (44, .getfield 11, 3), (47, .aload_n 0, 1), (48, .getfield 18, 3), (51, .aload_n 1, 1), (52, .getfield 34, 3), (55, .iastore, 1), (56, .aload_n 1, 1), (57, .getfield 39, 3), (60, .iconst 0, 1), (61, .aload_n 0, 1), (62, .getfield 15, 3), (65, .aload_n 0, 1), (66, .getfield 18, 3), (69, .sipush 800, 3), (72, .imul, 1), (73, .sipush 800, 3), (76, .invokestatic 42, 3), (79, .return_, 1)]
set_option maxRecDepth 100000 in
theorem dtX0_record : allD cX0_record tbX0_record = true := by decide +kernel
theorem dX0_record_0 : decode cX0_record 0 = .ok (.aload_n 0, 1) := allD_get dtX0_record 0 rfl
theorem dX0_record_1 : decode cX0_record 1 = .ok (.aload_n 0, 1) := allD_get dtX0_record 1 rfl
theorem dX0_record_2 : decode cX0_record 2 = .ok (.getfield 18, 3) := allD_get dtX0_record 2 rfl
theorem dX0_record_5 : decode cX0_record 5 = .ok (.bipush 6, 2) := allD_get dtX0_record 3 rfl
theorem dX0_record_7 : decode cX0_record 7 = .ok (.if_icmp .ne 7, 3) := allD_get dtX0_record 4 rfl
theorem dX0_record_10 : decode cX0_record 10 = .ok (.iconst 0, 1) := allD_get dtX0_record 5 rfl
theorem dX0_record_11 : decode cX0_record 11 = .ok (.goto 9, 3) := allD_get dtX0_record 6 rfl
theorem dX0_record_14 : decode cX0_record 14 = .ok (.aload_n 0, 1) := allD_get dtX0_record 7 rfl
theorem dX0_record_15 : decode cX0_record 15 = .ok (.getfield 18, 3) := allD_get dtX0_record 8 rfl
theorem dX0_record_18 : decode cX0_record 18 = .ok (.iconst 1, 1) := allD_get dtX0_record 9 rfl
theorem dX0_record_19 : decode cX0_record 19 = .ok (.iadd, 1) := allD_get dtX0_record 10 rfl
theorem dX0_record_20 : decode cX0_record 20 = .ok (.putfield 18, 3) := allD_get dtX0_record 11 rfl
theorem dX0_record_23 : decode cX0_record 23 = .ok (.aload_n 0, 1) := allD_get dtX0_record 12 rfl
theorem dX0_record_24 : decode cX0_record 24 = .ok (.aload_n 0, 1) := allD_get dtX0_record 13 rfl
theorem dX0_record_25 : decode cX0_record 25 = .ok (.getfield 22, 3) := allD_get dtX0_record 14 rfl
theorem dX0_record_28 : decode cX0_record 28 = .ok (.iconst 1, 1) := allD_get dtX0_record 15 rfl
theorem dX0_record_29 : decode cX0_record 29 = .ok (.iadd, 1) := allD_get dtX0_record 16 rfl
theorem dX0_record_30 : decode cX0_record 30 = .ok (.bipush 6, 2) := allD_get dtX0_record 17 rfl
theorem dX0_record_32 : decode cX0_record 32 = .ok (.invokestatic 25, 3) := allD_get dtX0_record 18 rfl
theorem dX0_record_35 : decode cX0_record 35 = .ok (.putfield 22, 3) := allD_get dtX0_record 19 rfl
theorem dX0_record_38 : decode cX0_record 38 = .ok (.aload_n 0, 1) := allD_get dtX0_record 20 rfl
theorem dX0_record_39 : decode cX0_record 39 = .ok (.iconst 0, 1) := allD_get dtX0_record 21 rfl
theorem dX0_record_40 : decode cX0_record 40 = .ok (.putfield 31, 3) := allD_get dtX0_record 22 rfl
theorem dX0_record_43 : decode cX0_record 43 = .ok (.aload_n 0, 1) := allD_get dtX0_record 23 rfl
theorem dX0_record_44 : decode cX0_record 44 = .ok (.getfield 11, 3) := allD_get dtX0_record 24 rfl
theorem dX0_record_47 : decode cX0_record 47 = .ok (.aload_n 0, 1) := allD_get dtX0_record 25 rfl
theorem dX0_record_48 : decode cX0_record 48 = .ok (.getfield 18, 3) := allD_get dtX0_record 26 rfl
theorem dX0_record_51 : decode cX0_record 51 = .ok (.aload_n 1, 1) := allD_get dtX0_record 27 rfl
theorem dX0_record_52 : decode cX0_record 52 = .ok (.getfield 34, 3) := allD_get dtX0_record 28 rfl
theorem dX0_record_55 : decode cX0_record 55 = .ok (.iastore, 1) := allD_get dtX0_record 29 rfl
theorem dX0_record_56 : decode cX0_record 56 = .ok (.aload_n 1, 1) := allD_get dtX0_record 30 rfl
theorem dX0_record_57 : decode cX0_record 57 = .ok (.getfield 39, 3) := allD_get dtX0_record 31 rfl
theorem dX0_record_60 : decode cX0_record 60 = .ok (.iconst 0, 1) := allD_get dtX0_record 32 rfl
theorem dX0_record_61 : decode cX0_record 61 = .ok (.aload_n 0, 1) := allD_get dtX0_record 33 rfl
theorem dX0_record_62 : decode cX0_record 62 = .ok (.getfield 15, 3) := allD_get dtX0_record 34 rfl
theorem dX0_record_65 : decode cX0_record 65 = .ok (.aload_n 0, 1) := allD_get dtX0_record 35 rfl
theorem dX0_record_66 : decode cX0_record 66 = .ok (.getfield 18, 3) := allD_get dtX0_record 36 rfl
theorem dX0_record_69 : decode cX0_record 69 = .ok (.sipush 800, 3) := allD_get dtX0_record 37 rfl
theorem dX0_record_72 : decode cX0_record 72 = .ok (.imul, 1) := allD_get dtX0_record 38 rfl
theorem dX0_record_73 : decode cX0_record 73 = .ok (.sipush 800, 3) := allD_get dtX0_record 39 rfl
theorem dX0_record_76 : decode cX0_record 76 = .ok (.invokestatic 42, 3) := allD_get dtX0_record 40 rfl
theorem dX0_record_79 : decode cX0_record 79 = .ok (.return_, 1) := allD_get dtX0_record 41 rfl
def tbX0_stepBack : List (Nat × Instr × Nat) := [(0, .aload_n 0, 1), (1, .getfield 22, 3), (4, .ifCond .le 50, 3), (7, .aload_n 0, 1), (8, .aload_n 0, 1), (9, .getfield 18, 3), (12, .ifCond .ne 8, 3), (15, .bipush 6, 2), (17, .goto 9, 3), (20, .aload_n 0, 1), (21, .getfield 18, 3), (24, .iconst 1, 1), (25, .isub, 1), (26, .putfield 18, 3), (29, .aload_n 0, 1), (30, .dup, 1), (31, .getfield 22, 3), (34, .iconst 1, 1), (35, .isub, 1), (36, .putfield 22, 3), (39, .aload_n 0, 1), (40, .dup, 1), (41, .getfield 31, 3), (44, .iconst 1, 1), (45, .iadd, 1), (46, .putfield 31, 3), (49, .aload_n 0, 1), (50, .aload_n 1, 1), (51, .invokevirtual 48, 3), (54, .return_, 1)]
set_option maxRecDepth 100000 in
theorem dtX0_stepBack : allD cX0_stepBack tbX0_stepBack = true := by decide +kernel
theorem dX0_stepBack_0 : decode cX0_stepBack 0 = .ok (.aload_n 0, 1) := allD_get dtX0_stepBack 0 rfl
theorem dX0_stepBack_1 : decode cX0_stepBack 1 = .ok (.getfield 22, 3) := allD_get dtX0_stepBack 1 rfl
theorem dX0_stepBack_4 : decode cX0_stepBack 4 = .ok (.ifCond .le 50, 3) := allD_get dtX0_stepBack 2 rfl
theorem dX0_stepBack_7 : decode cX0_stepBack 7 = .ok (.aload_n 0, 1) := allD_get dtX0_stepBack 3 rfl
theorem dX0_stepBack_8 : decode cX0_stepBack 8 = .ok (.aload_n 0, 1) := allD_get dtX0_stepBack 4 rfl
theorem dX0_stepBack_9 : decode cX0_stepBack 9 = .ok (.getfield 18, 3) := allD_get dtX0_stepBack 5 rfl
theorem dX0_stepBack_12 : decode cX0_stepBack 12 = .ok (.ifCond .ne 8, 3) := allD_get dtX0_stepBack 6 rfl
theorem dX0_stepBack_15 : decode cX0_stepBack 15 = .ok (.bipush 6, 2) := allD_get dtX0_stepBack 7 rfl
theorem dX0_stepBack_17 : decode cX0_stepBack 17 = .ok (.goto 9, 3) := allD_get dtX0_stepBack 8 rfl
theorem dX0_stepBack_20 : decode cX0_stepBack 20 = .ok (.aload_n 0, 1) := allD_get dtX0_stepBack 9 rfl
theorem dX0_stepBack_21 : decode cX0_stepBack 21 = .ok (.getfield 18, 3) := allD_get dtX0_stepBack 10 rfl
theorem dX0_stepBack_24 : decode cX0_stepBack 24 = .ok (.iconst 1, 1) := allD_get dtX0_stepBack 11 rfl
theorem dX0_stepBack_25 : decode cX0_stepBack 25 = .ok (.isub, 1) := allD_get dtX0_stepBack 12 rfl
theorem dX0_stepBack_26 : decode cX0_stepBack 26 = .ok (.putfield 18, 3) := allD_get dtX0_stepBack 13 rfl
theorem dX0_stepBack_29 : decode cX0_stepBack 29 = .ok (.aload_n 0, 1) := allD_get dtX0_stepBack 14 rfl
theorem dX0_stepBack_30 : decode cX0_stepBack 30 = .ok (.dup, 1) := allD_get dtX0_stepBack 15 rfl
theorem dX0_stepBack_31 : decode cX0_stepBack 31 = .ok (.getfield 22, 3) := allD_get dtX0_stepBack 16 rfl
theorem dX0_stepBack_34 : decode cX0_stepBack 34 = .ok (.iconst 1, 1) := allD_get dtX0_stepBack 17 rfl
theorem dX0_stepBack_35 : decode cX0_stepBack 35 = .ok (.isub, 1) := allD_get dtX0_stepBack 18 rfl
theorem dX0_stepBack_36 : decode cX0_stepBack 36 = .ok (.putfield 22, 3) := allD_get dtX0_stepBack 19 rfl
theorem dX0_stepBack_39 : decode cX0_stepBack 39 = .ok (.aload_n 0, 1) := allD_get dtX0_stepBack 20 rfl
theorem dX0_stepBack_40 : decode cX0_stepBack 40 = .ok (.dup, 1) := allD_get dtX0_stepBack 21 rfl
theorem dX0_stepBack_41 : decode cX0_stepBack 41 = .ok (.getfield 31, 3) := allD_get dtX0_stepBack 22 rfl
theorem dX0_stepBack_44 : decode cX0_stepBack 44 = .ok (.iconst 1, 1) := allD_get dtX0_stepBack 23 rfl
theorem dX0_stepBack_45 : decode cX0_stepBack 45 = .ok (.iadd, 1) := allD_get dtX0_stepBack 24 rfl
theorem dX0_stepBack_46 : decode cX0_stepBack 46 = .ok (.putfield 31, 3) := allD_get dtX0_stepBack 25 rfl
theorem dX0_stepBack_49 : decode cX0_stepBack 49 = .ok (.aload_n 0, 1) := allD_get dtX0_stepBack 26 rfl
theorem dX0_stepBack_50 : decode cX0_stepBack 50 = .ok (.aload_n 1, 1) := allD_get dtX0_stepBack 27 rfl
theorem dX0_stepBack_51 : decode cX0_stepBack 51 = .ok (.invokevirtual 48, 3) := allD_get dtX0_stepBack 28 rfl
theorem dX0_stepBack_54 : decode cX0_stepBack 54 = .ok (.return_, 1) := allD_get dtX0_stepBack 29 rfl
def tbX0_stepOn : List (Nat × Instr × Nat) := [(0, .aload_n 0, 1), (1, .getfield 31, 3), (4, .ifCond .le 51, 3), (7, .aload_n 0, 1), (8, .aload_n 0, 1), (9, .getfield 18, 3), (12, .bipush 6, 2), (14, .if_icmp .ne 7, 3), (17, .iconst 0, 1), (18, .goto 9, 3), (21, .aload_n 0, 1), (22, .getfield 18, 3), (25, .iconst 1, 1), (26, .iadd, 1), (27, .putfield 18, 3), (30, .aload_n 0, 1), (31, .dup, 1), (32, .getfield 22, 3), (35, .iconst 1, 1), (36, .iadd, 1), (37, .putfield 22, 3), (40, .aload_n 0, 1), (41, .dup, 1), (42, .getfield 31, 3), (45, .iconst 1, 1), (46, .isub, 1), (47, .putfield 31, 3), (50, .aload_n 0, 1), (51, .aload_n 1, 1), (52, .invokevirtual 48, 3), (55, .return_, 1)]
set_option maxRecDepth 100000 in
theorem dtX0_stepOn : allD cX0_stepOn tbX0_stepOn = true := by decide +kernel
theorem dX0_stepOn_0 : decode cX0_stepOn 0 = .ok (.aload_n 0, 1) := allD_get dtX0_stepOn 0 rfl
theorem dX0_stepOn_1 : decode cX0_stepOn 1 = .ok (.getfield 31, 3) := allD_get dtX0_stepOn 1 rfl
theorem dX0_stepOn_4 : decode cX0_stepOn 4 = .ok (.ifCond .le 51, 3) := allD_get dtX0_stepOn 2 rfl
theorem dX0_stepOn_7 : decode cX0_stepOn 7 = .ok (.aload_n 0, 1) := allD_get dtX0_stepOn 3 rfl
theorem dX0_stepOn_8 : decode cX0_stepOn 8 = .ok (.aload_n 0, 1) := allD_get dtX0_stepOn 4 rfl
theorem dX0_stepOn_9 : decode cX0_stepOn 9 = .ok (.getfield 18, 3) := allD_get dtX0_stepOn 5 rfl
theorem dX0_stepOn_12 : decode cX0_stepOn 12 = .ok (.bipush 6, 2) := allD_get dtX0_stepOn 6 rfl
theorem dX0_stepOn_14 : decode cX0_stepOn 14 = .ok (.if_icmp .ne 7, 3) := allD_get dtX0_stepOn 7 rfl
theorem dX0_stepOn_17 : decode cX0_stepOn 17 = .ok (.iconst 0, 1) := allD_get dtX0_stepOn 8 rfl
theorem dX0_stepOn_18 : decode cX0_stepOn 18 = .ok (.goto 9, 3) := allD_get dtX0_stepOn 9 rfl
theorem dX0_stepOn_21 : decode cX0_stepOn 21 = .ok (.aload_n 0, 1) := allD_get dtX0_stepOn 10 rfl
theorem dX0_stepOn_22 : decode cX0_stepOn 22 = .ok (.getfield 18, 3) := allD_get dtX0_stepOn 11 rfl
theorem dX0_stepOn_25 : decode cX0_stepOn 25 = .ok (.iconst 1, 1) := allD_get dtX0_stepOn 12 rfl
theorem dX0_stepOn_26 : decode cX0_stepOn 26 = .ok (.iadd, 1) := allD_get dtX0_stepOn 13 rfl
theorem dX0_stepOn_27 : decode cX0_stepOn 27 = .ok (.putfield 18, 3) := allD_get dtX0_stepOn 14 rfl
theorem dX0_stepOn_30 : decode cX0_stepOn 30 = .ok (.aload_n 0, 1) := allD_get dtX0_stepOn 15 rfl
theorem dX0_stepOn_31 : decode cX0_stepOn 31 = .ok (.dup, 1) := allD_get dtX0_stepOn 16 rfl
theorem dX0_stepOn_32 : decode cX0_stepOn 32 = .ok (.getfield 22, 3) := allD_get dtX0_stepOn 17 rfl
theorem dX0_stepOn_35 : decode cX0_stepOn 35 = .ok (.iconst 1, 1) := allD_get dtX0_stepOn 18 rfl
theorem dX0_stepOn_36 : decode cX0_stepOn 36 = .ok (.iadd, 1) := allD_get dtX0_stepOn 19 rfl
theorem dX0_stepOn_37 : decode cX0_stepOn 37 = .ok (.putfield 22, 3) := allD_get dtX0_stepOn 20 rfl
theorem dX0_stepOn_40 : decode cX0_stepOn 40 = .ok (.aload_n 0, 1) := allD_get dtX0_stepOn 21 rfl
theorem dX0_stepOn_41 : decode cX0_stepOn 41 = .ok (.dup, 1) := allD_get dtX0_stepOn 22 rfl
theorem dX0_stepOn_42 : decode cX0_stepOn 42 = .ok (.getfield 31, 3) := allD_get dtX0_stepOn 23 rfl
theorem dX0_stepOn_45 : decode cX0_stepOn 45 = .ok (.iconst 1, 1) := allD_get dtX0_stepOn 24 rfl
theorem dX0_stepOn_46 : decode cX0_stepOn 46 = .ok (.isub, 1) := allD_get dtX0_stepOn 25 rfl
theorem dX0_stepOn_47 : decode cX0_stepOn 47 = .ok (.putfield 31, 3) := allD_get dtX0_stepOn 26 rfl
theorem dX0_stepOn_50 : decode cX0_stepOn 50 = .ok (.aload_n 0, 1) := allD_get dtX0_stepOn 27 rfl
theorem dX0_stepOn_51 : decode cX0_stepOn 51 = .ok (.aload_n 1, 1) := allD_get dtX0_stepOn 28 rfl
theorem dX0_stepOn_52 : decode cX0_stepOn 52 = .ok (.invokevirtual 48, 3) := allD_get dtX0_stepOn 29 rfl
theorem dX0_stepOn_55 : decode cX0_stepOn 55 = .ok (.return_, 1) := allD_get dtX0_stepOn 30 rfl
def tbX0_show : List (Nat × Instr × Nat) := [(0, .aload_n 1, 1), (1, .aload_n 0, 1), (2, .getfield 11, 3), (5, .aload_n 0, 1), (6, .getfield 18, 3), (9, .iaload, 1), (10, .putfield 34, 3), (13, .aload_n 0, 1), (14, .getfield 15, 3), (17, .aload_n 0, 1), (18, .getfield 18, 3), (21, .sipush 800, 3), (24, .imul, 1), (25, .aload_n 1, 1), (26, .getfield 39, 3), (29, .iconst 0, 1), (30, .sipush 800, 3), (33, .invokestatic 42, 3), (36, .return_, 1)]
set_option maxRecDepth 100000 in
theorem dtX0_show : allD cX0_show tbX0_show = true := by decide +kernel
theorem dX0_show_0 : decode cX0_show 0 = .ok (.aload_n 1, 1) := allD_get dtX0_show 0 rfl
theorem dX0_show_1 : decode cX0_show 1 = .ok (.aload_n 0, 1) := allD_get dtX0_show 1 rfl
theorem dX0_show_2 : decode cX0_show 2 = .ok (.getfield 11, 3) := allD_get dtX0_show 2 rfl
theorem dX0_show_5 : decode cX0_show 5 = .ok (.aload_n 0, 1) := allD_get dtX0_show 3 rfl
theorem dX0_show_6 : decode cX0_show 6 = .ok (.getfield 18, 3) := allD_get dtX0_show 4 rfl
theorem dX0_show_9 : decode cX0_show 9 = .ok (.iaload, 1) := allD_get dtX0_show 5 rfl
theorem dX0_show_10 : decode cX0_show 10 = .ok (.putfield 34, 3) := allD_get dtX0_show 6 rfl
theorem dX0_show_13 : decode cX0_show 13 = .ok (.aload_n 0, 1) := allD_get dtX0_show 7 rfl
theorem dX0_show_14 : decode cX0_show 14 = .ok (.getfield 15, 3) := allD_get dtX0_show 8 rfl
theorem dX0_show_17 : decode cX0_show 17 = .ok (.aload_n 0, 1) := allD_get dtX0_show 9 rfl
theorem dX0_show_18 : decode cX0_show 18 = .ok (.getfield 18, 3) := allD_get dtX0_show 10 rfl
theorem dX0_show_21 : decode cX0_show 21 = .ok (.sipush 800, 3) := allD_get dtX0_show 11 rfl
theorem dX0_show_24 : decode cX0_show 24 = .ok (.imul, 1) := allD_get dtX0_show 12 rfl
theorem dX0_show_25 : decode cX0_show 25 = .ok (.aload_n 1, 1) := allD_get dtX0_show 13 rfl
theorem dX0_show_26 : decode cX0_show 26 = .ok (.getfield 39, 3) := allD_get dtX0_show 14 rfl
theorem dX0_show_29 : decode cX0_show 29 = .ok (.iconst 0, 1) := allD_get dtX0_show 15 rfl
theorem dX0_show_30 : decode cX0_show 30 = .ok (.sipush 800, 3) := allD_get dtX0_show 16 rfl
theorem dX0_show_33 : decode cX0_show 33 = .ok (.invokestatic 42, 3) := allD_get dtX0_show 17 rfl
theorem dX0_show_36 : decode cX0_show 36 = .ok (.return_, 1) := allD_get dtX0_show 18 rfl
