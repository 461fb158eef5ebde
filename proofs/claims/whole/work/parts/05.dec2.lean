def eX10_addThing_0 : List (Nat × Instr × Nat) := [(0, .aload_n 0, 1), (1, .getfield 13, 3), (4, .aload_n 0, 1), (5, .getfield 80, 3), (8, .iload_n 1, 1), (9, .iastore, 1), (10, .aload_n 0, 1), (11, .getfield 16, 3), (14, .aload_n 0, 1), (15, .getfield 80, 3), (18, .iconst 0, 1), (19, .iastore, 1), (20, .aload_n 0, 1), (21, .getfield 25, 3), (24, .aload_n 0, 1), (25, .getfield 80, 3), (28, .iconst 0, 1), (29, .iastore, 1), (30, .aload_n 0, 1), (31, .dup, 1), (32, .getfield 80, 3), (35, .iconst 1, 1), (36, .iadd, 1), (37, .putfield 80, 3), (40, .aload_n 0, 1), (41, .getfield 80, 3), (44, .iconst 1, 1), (45, .isub, 1), (46, .ireturn, 1)]
theorem oX10_addThing_0 : okC cX10_addThing eX10_addThing_0 = true := by decide +kernel
theorem dX10_addThing_0 : decode cX10_addThing 0 = .ok (.aload_n 0, 1) := dOf oX10_addThing_0 0 rfl
theorem dX10_addThing_1 : decode cX10_addThing 1 = .ok (.getfield 13, 3) := dOf oX10_addThing_0 1 rfl
theorem dX10_addThing_4 : decode cX10_addThing 4 = .ok (.aload_n 0, 1) := dOf oX10_addThing_0 2 rfl
theorem dX10_addThing_5 : decode cX10_addThing 5 = .ok (.getfield 80, 3) := dOf oX10_addThing_0 3 rfl
theorem dX10_addThing_8 : decode cX10_addThing 8 = .ok (.iload_n 1, 1) := dOf oX10_addThing_0 4 rfl
theorem dX10_addThing_9 : decode cX10_addThing 9 = .ok (.iastore, 1) := dOf oX10_addThing_0 5 rfl
theorem dX10_addThing_10 : decode cX10_addThing 10 = .ok (.aload_n 0, 1) := dOf oX10_addThing_0 6 rfl
theorem dX10_addThing_11 : decode cX10_addThing 11 = .ok (.getfield 16, 3) := dOf oX10_addThing_0 7 rfl
theorem dX10_addThing_14 : decode cX10_addThing 14 = .ok (.aload_n 0, 1) := dOf oX10_addThing_0 8 rfl
theorem dX10_addThing_15 : decode cX10_addThing 15 = .ok (.getfield 80, 3) := dOf oX10_addThing_0 9 rfl
theorem dX10_addThing_18 : decode cX10_addThing 18 = .ok (.iconst 0, 1) := dOf oX10_addThing_0 10 rfl
theorem dX10_addThing_19 : decode cX10_addThing 19 = .ok (.iastore, 1) := dOf oX10_addThing_0 11 rfl
theorem dX10_addThing_20 : decode cX10_addThing 20 = .ok (.aload_n 0, 1) := dOf oX10_addThing_0 12 rfl
theorem dX10_addThing_21 : decode cX10_addThing 21 = .ok (.getfield 25, 3) := dOf oX10_addThing_0 13 rfl
theorem dX10_addThing_24 : decode cX10_addThing 24 = .ok (.aload_n 0, 1) := dOf oX10_addThing_0 14 rfl
theorem dX10_addThing_25 : decode cX10_addThing 25 = .ok (.getfield 80, 3) := dOf oX10_addThing_0 15 rfl
theorem dX10_addThing_28 : decode cX10_addThing 28 = .ok (.iconst 0, 1) := dOf oX10_addThing_0 16 rfl
theorem dX10_addThing_29 : decode cX10_addThing 29 = .ok (.iastore, 1) := dOf oX10_addThing_0 17 rfl
theorem dX10_addThing_30 : decode cX10_addThing 30 = .ok (.aload_n 0, 1) := dOf oX10_addThing_0 18 rfl
theorem dX10_addThing_31 : decode cX10_addThing 31 = .ok (.dup, 1) := dOf oX10_addThing_0 19 rfl
theorem dX10_addThing_32 : decode cX10_addThing 32 = .ok (.getfield 80, 3) := dOf oX10_addThing_0 20 rfl
theorem dX10_addThing_35 : decode cX10_addThing 35 = .ok (.iconst 1, 1) := dOf oX10_addThing_0 21 rfl
theorem dX10_addThing_36 : decode cX10_addThing 36 = .ok (.iadd, 1) := dOf oX10_addThing_0 22 rfl
theorem dX10_addThing_37 : decode cX10_addThing 37 = .ok (.putfield 80, 3) := dOf oX10_addThing_0 23 rfl
theorem dX10_addThing_40 : decode cX10_addThing 40 = .ok (.aload_n 0, 1) := dOf oX10_addThing_0 24 rfl
theorem dX10_addThing_41 : decode cX10_addThing 41 = .ok (.getfield 80, 3) := dOf oX10_addThing_0 25 rfl
theorem dX10_addThing_44 : decode cX10_addThing 44 = .ok (.iconst 1, 1) := dOf oX10_addThing_0 26 rfl
theorem dX10_addThing_45 : decode cX10_addThing 45 = .ok (.isub, 1) := dOf oX10_addThing_0 27 rfl
theorem dX10_addThing_46 : decode cX10_addThing 46 = .ok (.ireturn, 1) := dOf oX10_addThing_0 28 rfl
def eX10_thing_0 : List (Nat × Instr × Nat) := [(0, .aload_n 0, 1), (1, .getfield 96, 3), (4, .istore_n 1, 1), (5, .aload_n 0, 1), (6, .iconst 0, 1), (7, .putfield 96, 3), (10, .iload_n 1, 1), (11, .i2l, 1), (12, .lconst 1, 1), (13, .ldc2_w 99, 3), (16, .invokestatic 84, 3), (19, .ifCond .ne 6, 3), (22, .bipush (-2), 2), (24, .ireturn, 1), (25, .aload_n 0, 1), (26, .getfield 80, 3), (29, .bipush 12, 2), (31, .if_icmp .ne 6, 3), (34, .bipush (-3), 2), (36, .ireturn, 1), (37, .iconst 0, 1), (38, .istore_n 2, 1), (39, .iload_n 2, 1), (40, .iload_n 1, 1), (41, .if_icmp .ge 29, 3), (44, .aload_n 0, 1), (45, .getfield 7, 3), (48, .bipush 16, 2), (50, .aload_n 0, 1), (51, .getfield 80, 3), (54, .imul, 1), (55, .iload_n 2, 1), (56, .iadd, 1), (57, .aload_n 0, 1), (58, .getfield 28, 3), (61, .iload_n 2, 1), (62, .iaload, 1), (63, .iastore, 1), (64, .iinc 2 1, 3), (67, .goto (-28), 3), (70, .aload_n 0, 1), (71, .iload_n 1, 1), (72, .invokevirtual 101, 3), (75, .ireturn, 1)]
theorem oX10_thing_0 : okC cX10_thing eX10_thing_0 = true := by decide +kernel
theorem dX10_thing_0 : decode cX10_thing 0 = .ok (.aload_n 0, 1) := dOf oX10_thing_0 0 rfl
theorem dX10_thing_1 : decode cX10_thing 1 = .ok (.getfield 96, 3) := dOf oX10_thing_0 1 rfl
theorem dX10_thing_4 : decode cX10_thing 4 = .ok (.istore_n 1, 1) := dOf oX10_thing_0 2 rfl
theorem dX10_thing_5 : decode cX10_thing 5 = .ok (.aload_n 0, 1) := dOf oX10_thing_0 3 rfl
theorem dX10_thing_6 : decode cX10_thing 6 = .ok (.iconst 0, 1) := dOf oX10_thing_0 4 rfl
theorem dX10_thing_7 : decode cX10_thing 7 = .ok (.putfield 96, 3) := dOf oX10_thing_0 5 rfl
theorem dX10_thing_10 : decode cX10_thing 10 = .ok (.iload_n 1, 1) := dOf oX10_thing_0 6 rfl
theorem dX10_thing_11 : decode cX10_thing 11 = .ok (.i2l, 1) := dOf oX10_thing_0 7 rfl
theorem dX10_thing_12 : decode cX10_thing 12 = .ok (.lconst 1, 1) := dOf oX10_thing_0 8 rfl
theorem dX10_thing_13 : decode cX10_thing 13 = .ok (.ldc2_w 99, 3) := dOf oX10_thing_0 9 rfl
theorem dX10_thing_16 : decode cX10_thing 16 = .ok (.invokestatic 84, 3) := dOf oX10_thing_0 10 rfl
theorem dX10_thing_19 : decode cX10_thing 19 = .ok (.ifCond .ne 6, 3) := dOf oX10_thing_0 11 rfl
theorem dX10_thing_22 : decode cX10_thing 22 = .ok (.bipush (-2), 2) := dOf oX10_thing_0 12 rfl
theorem dX10_thing_24 : decode cX10_thing 24 = .ok (.ireturn, 1) := dOf oX10_thing_0 13 rfl
theorem dX10_thing_25 : decode cX10_thing 25 = .ok (.aload_n 0, 1) := dOf oX10_thing_0 14 rfl
theorem dX10_thing_26 : decode cX10_thing 26 = .ok (.getfield 80, 3) := dOf oX10_thing_0 15 rfl
theorem dX10_thing_29 : decode cX10_thing 29 = .ok (.bipush 12, 2) := dOf oX10_thing_0 16 rfl
theorem dX10_thing_31 : decode cX10_thing 31 = .ok (.if_icmp .ne 6, 3) := dOf oX10_thing_0 17 rfl
theorem dX10_thing_34 : decode cX10_thing 34 = .ok (.bipush (-3), 2) := dOf oX10_thing_0 18 rfl
theorem dX10_thing_36 : decode cX10_thing 36 = .ok (.ireturn, 1) := dOf oX10_thing_0 19 rfl
theorem dX10_thing_37 : decode cX10_thing 37 = .ok (.iconst 0, 1) := dOf oX10_thing_0 20 rfl
theorem dX10_thing_38 : decode cX10_thing 38 = .ok (.istore_n 2, 1) := dOf oX10_thing_0 21 rfl
theorem dX10_thing_39 : decode cX10_thing 39 = .ok (.iload_n 2, 1) := dOf oX10_thing_0 22 rfl
theorem dX10_thing_40 : decode cX10_thing 40 = .ok (.iload_n 1, 1) := dOf oX10_thing_0 23 rfl
theorem dX10_thing_41 : decode cX10_thing 41 = .ok (.if_icmp .ge 29, 3) := dOf oX10_thing_0 24 rfl
theorem dX10_thing_44 : decode cX10_thing 44 = .ok (.aload_n 0, 1) := dOf oX10_thing_0 25 rfl
theorem dX10_thing_45 : decode cX10_thing 45 = .ok (.getfield 7, 3) := dOf oX10_thing_0 26 rfl
theorem dX10_thing_48 : decode cX10_thing 48 = .ok (.bipush 16, 2) := dOf oX10_thing_0 27 rfl
theorem dX10_thing_50 : decode cX10_thing 50 = .ok (.aload_n 0, 1) := dOf oX10_thing_0 28 rfl
theorem dX10_thing_51 : decode cX10_thing 51 = .ok (.getfield 80, 3) := dOf oX10_thing_0 29 rfl
theorem dX10_thing_54 : decode cX10_thing 54 = .ok (.imul, 1) := dOf oX10_thing_0 30 rfl
theorem dX10_thing_55 : decode cX10_thing 55 = .ok (.iload_n 2, 1) := dOf oX10_thing_0 31 rfl
theorem dX10_thing_56 : decode cX10_thing 56 = .ok (.iadd, 1) := dOf oX10_thing_0 32 rfl
theorem dX10_thing_57 : decode cX10_thing 57 = .ok (.aload_n 0, 1) := dOf oX10_thing_0 33 rfl
theorem dX10_thing_58 : decode cX10_thing 58 = .ok (.getfield 28, 3) := dOf oX10_thing_0 34 rfl
theorem dX10_thing_61 : decode cX10_thing 61 = .ok (.iload_n 2, 1) := dOf oX10_thing_0 35 rfl
theorem dX10_thing_62 : decode cX10_thing 62 = .ok (.iaload, 1) := dOf oX10_thing_0 36 rfl
theorem dX10_thing_63 : decode cX10_thing 63 = .ok (.iastore, 1) := dOf oX10_thing_0 37 rfl
theorem dX10_thing_64 : decode cX10_thing 64 = .ok (.iinc 2 1, 3) := dOf oX10_thing_0 38 rfl
theorem dX10_thing_67 : decode cX10_thing 67 = .ok (.goto (-28), 3) := dOf oX10_thing_0 39 rfl
theorem dX10_thing_70 : decode cX10_thing 70 = .ok (.aload_n 0, 1) := dOf oX10_thing_0 40 rfl
theorem dX10_thing_71 : decode cX10_thing 71 = .ok (.iload_n 1, 1) := dOf oX10_thing_0 41 rfl
theorem dX10_thing_72 : decode cX10_thing 72 = .ok (.invokevirtual 101, 3) := dOf oX10_thing_0 42 rfl
theorem dX10_thing_75 : decode cX10_thing 75 = .ok (.ireturn, 1) := dOf oX10_thing_0 43 rfl
def eX10_byteAt_0 : List (Nat × Instr × Nat) := [(0, .aload_n 0, 1), (1, .iload_n 1, 1), (2, .invokevirtual 105, 3), (5, .ifCond .eq 23, 3), (8, .iload_n 2, 1), (9, .i2l, 1), (10, .ldc2_w 109, 3), (13, .aload_n 0, 1), (14, .getfield 13, 3), (17, .iload_n 1, 1), (18, .iaload, 1), (19, .iconst 1, 1), (20, .isub, 1), (21, .i2l, 1), (22, .invokestatic 84, 3), (25, .ifCond .ne 5, 3), (28, .iconst (-1), 1), (29, .ireturn, 1), (30, .iload_n 2, 1), (31, .ifCond .ge 12, 3), (34, .aload_n 0, 1), (35, .getfield 13, 3), (38, .iload_n 1, 1), (39, .iaload, 1), (40, .goto 14, 3), (43, .aload_n 0, 1), (44, .getfield 7, 3), (47, .bipush 16, 2), (49, .iload_n 1, 1), (50, .imul, 1), (51, .iload_n 2, 1), (52, .iadd, 1), (53, .iaload, 1), (54, .ireturn, 1)]
theorem oX10_byteAt_0 : okC cX10_byteAt eX10_byteAt_0 = true := by decide +kernel
theorem dX10_byteAt_0 : decode cX10_byteAt 0 = .ok (.aload_n 0, 1) := dOf oX10_byteAt_0 0 rfl
theorem dX10_byteAt_1 : decode cX10_byteAt 1 = .ok (.iload_n 1, 1) := dOf oX10_byteAt_0 1 rfl
theorem dX10_byteAt_2 : decode cX10_byteAt 2 = .ok (.invokevirtual 105, 3) := dOf oX10_byteAt_0 2 rfl
theorem dX10_byteAt_5 : decode cX10_byteAt 5 = .ok (.ifCond .eq 23, 3) := dOf oX10_byteAt_0 3 rfl
theorem dX10_byteAt_8 : decode cX10_byteAt 8 = .ok (.iload_n 2, 1) := dOf oX10_byteAt_0 4 rfl
theorem dX10_byteAt_9 : decode cX10_byteAt 9 = .ok (.i2l, 1) := dOf oX10_byteAt_0 5 rfl
theorem dX10_byteAt_10 : decode cX10_byteAt 10 = .ok (.ldc2_w 109, 3) := dOf oX10_byteAt_0 6 rfl
theorem dX10_byteAt_13 : decode cX10_byteAt 13 = .ok (.aload_n 0, 1) := dOf oX10_byteAt_0 7 rfl
theorem dX10_byteAt_14 : decode cX10_byteAt 14 = .ok (.getfield 13, 3) := dOf oX10_byteAt_0 8 rfl
theorem dX10_byteAt_17 : decode cX10_byteAt 17 = .ok (.iload_n 1, 1) := dOf oX10_byteAt_0 9 rfl
theorem dX10_byteAt_18 : decode cX10_byteAt 18 = .ok (.iaload, 1) := dOf oX10_byteAt_0 10 rfl
theorem dX10_byteAt_19 : decode cX10_byteAt 19 = .ok (.iconst 1, 1) := dOf oX10_byteAt_0 11 rfl
theorem dX10_byteAt_20 : decode cX10_byteAt 20 = .ok (.isub, 1) := dOf oX10_byteAt_0 12 rfl
theorem dX10_byteAt_21 : decode cX10_byteAt 21 = .ok (.i2l, 1) := dOf oX10_byteAt_0 13 rfl
theorem dX10_byteAt_22 : decode cX10_byteAt 22 = .ok (.invokestatic 84, 3) := dOf oX10_byteAt_0 14 rfl
theorem dX10_byteAt_25 : decode cX10_byteAt 25 = .ok (.ifCond .ne 5, 3) := dOf oX10_byteAt_0 15 rfl
theorem dX10_byteAt_28 : decode cX10_byteAt 28 = .ok (.iconst (-1), 1) := dOf oX10_byteAt_0 16 rfl
theorem dX10_byteAt_29 : decode cX10_byteAt 29 = .ok (.ireturn, 1) := dOf oX10_byteAt_0 17 rfl
theorem dX10_byteAt_30 : decode cX10_byteAt 30 = .ok (.iload_n 2, 1) := dOf oX10_byteAt_0 18 rfl
theorem dX10_byteAt_31 : decode cX10_byteAt 31 = .ok (.ifCond .ge 12, 3) := dOf oX10_byteAt_0 19 rfl
theorem dX10_byteAt_34 : decode cX10_byteAt 34 = .ok (.aload_n 0, 1) := dOf oX10_byteAt_0 20 rfl
theorem dX10_byteAt_35 : decode cX10_byteAt 35 = .ok (.getfield 13, 3) := dOf oX10_byteAt_0 21 rfl
theorem dX10_byteAt_38 : decode cX10_byteAt 38 = .ok (.iload_n 1, 1) := dOf oX10_byteAt_0 22 rfl
theorem dX10_byteAt_39 : decode cX10_byteAt 39 = .ok (.iaload, 1) := dOf oX10_byteAt_0 23 rfl
theorem dX10_byteAt_40 : decode cX10_byteAt 40 = .ok (.goto 14, 3) := dOf oX10_byteAt_0 24 rfl
theorem dX10_byteAt_43 : decode cX10_byteAt 43 = .ok (.aload_n 0, 1) := dOf oX10_byteAt_0 25 rfl
theorem dX10_byteAt_44 : decode cX10_byteAt 44 = .ok (.getfield 7, 3) := dOf oX10_byteAt_0 26 rfl
theorem dX10_byteAt_47 : decode cX10_byteAt 47 = .ok (.bipush 16, 2) := dOf oX10_byteAt_0 27 rfl
theorem dX10_byteAt_49 : decode cX10_byteAt 49 = .ok (.iload_n 1, 1) := dOf oX10_byteAt_0 28 rfl
theorem dX10_byteAt_50 : decode cX10_byteAt 50 = .ok (.imul, 1) := dOf oX10_byteAt_0 29 rfl
theorem dX10_byteAt_51 : decode cX10_byteAt 51 = .ok (.iload_n 2, 1) := dOf oX10_byteAt_0 30 rfl
theorem dX10_byteAt_52 : decode cX10_byteAt 52 = .ok (.iadd, 1) := dOf oX10_byteAt_0 31 rfl
theorem dX10_byteAt_53 : decode cX10_byteAt 53 = .ok (.iaload, 1) := dOf oX10_byteAt_0 32 rfl
theorem dX10_byteAt_54 : decode cX10_byteAt 54 = .ok (.ireturn, 1) := dOf oX10_byteAt_0 33 rfl
def eX10_isDigit_0 : List (Nat × Instr × Nat) := [(0, .iload_n 0, 1), (1, .i2l, 1), (2, .ldc2_w 111, 3), (5, .ldc2_w 113, 3), (8, .invokestatic 84, 3), (11, .ireturn, 1)]
theorem oX10_isDigit_0 : okC cX10_isDigit eX10_isDigit_0 = true := by decide +kernel
theorem dX10_isDigit_0 : decode cX10_isDigit 0 = .ok (.iload_n 0, 1) := dOf oX10_isDigit_0 0 rfl
theorem dX10_isDigit_1 : decode cX10_isDigit 1 = .ok (.i2l, 1) := dOf oX10_isDigit_0 1 rfl
theorem dX10_isDigit_2 : decode cX10_isDigit 2 = .ok (.ldc2_w 111, 3) := dOf oX10_isDigit_0 2 rfl
theorem dX10_isDigit_5 : decode cX10_isDigit 5 = .ok (.ldc2_w 113, 3) := dOf oX10_isDigit_0 3 rfl
theorem dX10_isDigit_8 : decode cX10_isDigit 8 = .ok (.invokestatic 84, 3) := dOf oX10_isDigit_0 4 rfl
theorem dX10_isDigit_11 : decode cX10_isDigit 11 = .ok (.ireturn, 1) := dOf oX10_isDigit_0 5 rfl
def eX10_isCapital_0 : List (Nat × Instr × Nat) := [(0, .iload_n 0, 1), (1, .i2l, 1), (2, .ldc2_w 115, 3), (5, .ldc2_w 117, 3), (8, .invokestatic 84, 3), (11, .ireturn, 1)]
theorem oX10_isCapital_0 : okC cX10_isCapital eX10_isCapital_0 = true := by decide +kernel
theorem dX10_isCapital_0 : decode cX10_isCapital 0 = .ok (.iload_n 0, 1) := dOf oX10_isCapital_0 0 rfl
theorem dX10_isCapital_1 : decode cX10_isCapital 1 = .ok (.i2l, 1) := dOf oX10_isCapital_0 1 rfl
theorem dX10_isCapital_2 : decode cX10_isCapital 2 = .ok (.ldc2_w 115, 3) := dOf oX10_isCapital_0 2 rfl
theorem dX10_isCapital_5 : decode cX10_isCapital 5 = .ok (.ldc2_w 117, 3) := dOf oX10_isCapital_0 3 rfl
theorem dX10_isCapital_8 : decode cX10_isCapital 8 = .ok (.invokestatic 84, 3) := dOf oX10_isCapital_0 4 rfl
theorem dX10_isCapital_11 : decode cX10_isCapital 11 = .ok (.ireturn, 1) := dOf oX10_isCapital_0 5 rfl
def eX10_isSmall_0 : List (Nat × Instr × Nat) := [(0, .iload_n 0, 1), (1, .i2l, 1), (2, .ldc2_w 119, 3), (5, .ldc2_w 121, 3), (8, .invokestatic 84, 3), (11, .ireturn, 1)]
theorem oX10_isSmall_0 : okC cX10_isSmall eX10_isSmall_0 = true := by decide +kernel
theorem dX10_isSmall_0 : decode cX10_isSmall 0 = .ok (.iload_n 0, 1) := dOf oX10_isSmall_0 0 rfl
theorem dX10_isSmall_1 : decode cX10_isSmall 1 = .ok (.i2l, 1) := dOf oX10_isSmall_0 1 rfl
theorem dX10_isSmall_2 : decode cX10_isSmall 2 = .ok (.ldc2_w 119, 3) := dOf oX10_isSmall_0 2 rfl
theorem dX10_isSmall_5 : decode cX10_isSmall 5 = .ok (.ldc2_w 121, 3) := dOf oX10_isSmall_0 3 rfl
theorem dX10_isSmall_8 : decode cX10_isSmall 8 = .ok (.invokestatic 84, 3) := dOf oX10_isSmall_0 4 rfl
theorem dX10_isSmall_11 : decode cX10_isSmall 11 = .ok (.ireturn, 1) := dOf oX10_isSmall_0 5 rfl
def eX10_isSign_0 : List (Nat × Instr × Nat) := [(0, .iload_n 0, 1), (1, .invokestatic 123, 3), (4, .ifCond .ne 21, 3), (7, .iload_n 0, 1), (8, .invokestatic 126, 3), (11, .ifCond .ne 14, 3), (14, .iload_n 0, 1), (15, .invokestatic 129, 3), (18, .ifCond .ne 7, 3), (21, .iconst 1, 1), (22, .goto 4, 3), (25, .iconst 0, 1), (26, .ireturn, 1)]
theorem oX10_isSign_0 : okC cX10_isSign eX10_isSign_0 = true := by decide +kernel
theorem dX10_isSign_0 : decode cX10_isSign 0 = .ok (.iload_n 0, 1) := dOf oX10_isSign_0 0 rfl
theorem dX10_isSign_1 : decode cX10_isSign 1 = .ok (.invokestatic 123, 3) := dOf oX10_isSign_0 1 rfl
theorem dX10_isSign_4 : decode cX10_isSign 4 = .ok (.ifCond .ne 21, 3) := dOf oX10_isSign_0 2 rfl
theorem dX10_isSign_7 : decode cX10_isSign 7 = .ok (.iload_n 0, 1) := dOf oX10_isSign_0 3 rfl
theorem dX10_isSign_8 : decode cX10_isSign 8 = .ok (.invokestatic 126, 3) := dOf oX10_isSign_0 4 rfl
theorem dX10_isSign_11 : decode cX10_isSign 11 = .ok (.ifCond .ne 14, 3) := dOf oX10_isSign_0 5 rfl
theorem dX10_isSign_14 : decode cX10_isSign 14 = .ok (.iload_n 0, 1) := dOf oX10_isSign_0 6 rfl
theorem dX10_isSign_15 : decode cX10_isSign 15 = .ok (.invokestatic 129, 3) := dOf oX10_isSign_0 7 rfl
theorem dX10_isSign_18 : decode cX10_isSign 18 = .ok (.ifCond .ne 7, 3) := dOf oX10_isSign_0 8 rfl
theorem dX10_isSign_21 : decode cX10_isSign 21 = .ok (.iconst 1, 1) := dOf oX10_isSign_0 9 rfl
theorem dX10_isSign_22 : decode cX10_isSign 22 = .ok (.goto 4, 3) := dOf oX10_isSign_0 10 rfl
theorem dX10_isSign_25 : decode cX10_isSign 25 = .ok (.iconst 0, 1) := dOf oX10_isSign_0 11 rfl
theorem dX10_isSign_26 : decode cX10_isSign 26 = .ok (.ireturn, 1) := dOf oX10_isSign_0 12 rfl
def eX10_isOf_0 : List (Nat × Instr × Nat) := [(0, .iload_n 1, 1), (1, .ifCond .ne 10, 3), (4, .iload_n 0, 1), (5, .invokestatic 123, 3), (8, .goto 46, 3), (11, .iload_n 1, 1), (12, .iconst 1, 1), (13, .if_icmp .ne 25, 3), (16, .iload_n 0, 1), (17, .invokestatic 126, 3), (20, .ifCond .ne 10, 3), (23, .iload_n 0, 1), (24, .invokestatic 129, 3), (27, .ifCond .eq 7, 3), (30, .iconst 1, 1), (31, .goto 23, 3), (34, .iconst 0, 1), (35, .goto 19, 3), (38, .iload_n 1, 1), (39, .iconst 2, 1), (40, .if_icmp .ne 10, 3), (43, .iload_n 0, 1), (44, .invokestatic 126, 3), (47, .goto 7, 3), (50, .iload_n 0, 1), (51, .invokestatic 132, 3), (54, .ireturn, 1)]
theorem oX10_isOf_0 : okC cX10_isOf eX10_isOf_0 = true := by decide +kernel
theorem dX10_isOf_0 : decode cX10_isOf 0 = .ok (.iload_n 1, 1) := dOf oX10_isOf_0 0 rfl
theorem dX10_isOf_1 : decode cX10_isOf 1 = .ok (.ifCond .ne 10, 3) := dOf oX10_isOf_0 1 rfl
theorem dX10_isOf_4 : decode cX10_isOf 4 = .ok (.iload_n 0, 1) := dOf oX10_isOf_0 2 rfl
theorem dX10_isOf_5 : decode cX10_isOf 5 = .ok (.invokestatic 123, 3) := dOf oX10_isOf_0 3 rfl
theorem dX10_isOf_8 : decode cX10_isOf 8 = .ok (.goto 46, 3) := dOf oX10_isOf_0 4 rfl
theorem dX10_isOf_11 : decode cX10_isOf 11 = .ok (.iload_n 1, 1) := dOf oX10_isOf_0 5 rfl
theorem dX10_isOf_12 : decode cX10_isOf 12 = .ok (.iconst 1, 1) := dOf oX10_isOf_0 6 rfl
theorem dX10_isOf_13 : decode cX10_isOf 13 = .ok (.if_icmp .ne 25, 3) := dOf oX10_isOf_0 7 rfl
theorem dX10_isOf_16 : decode cX10_isOf 16 = .ok (.iload_n 0, 1) := dOf oX10_isOf_0 8 rfl
theorem dX10_isOf_17 : decode cX10_isOf 17 = .ok (.invokestatic 126, 3) := dOf oX10_isOf_0 9 rfl
theorem dX10_isOf_20 : decode cX10_isOf 20 = .ok (.ifCond .ne 10, 3) := dOf oX10_isOf_0 10 rfl
theorem dX10_isOf_23 : decode cX10_isOf 23 = .ok (.iload_n 0, 1) := dOf oX10_isOf_0 11 rfl
theorem dX10_isOf_24 : decode cX10_isOf 24 = .ok (.invokestatic 129, 3) := dOf oX10_isOf_0 12 rfl
theorem dX10_isOf_27 : decode cX10_isOf 27 = .ok (.ifCond .eq 7, 3) := dOf oX10_isOf_0 13 rfl
theorem dX10_isOf_30 : decode cX10_isOf 30 = .ok (.iconst 1, 1) := dOf oX10_isOf_0 14 rfl
theorem dX10_isOf_31 : decode cX10_isOf 31 = .ok (.goto 23, 3) := dOf oX10_isOf_0 15 rfl
theorem dX10_isOf_34 : decode cX10_isOf 34 = .ok (.iconst 0, 1) := dOf oX10_isOf_0 16 rfl
theorem dX10_isOf_35 : decode cX10_isOf 35 = .ok (.goto 19, 3) := dOf oX10_isOf_0 17 rfl
theorem dX10_isOf_38 : decode cX10_isOf 38 = .ok (.iload_n 1, 1) := dOf oX10_isOf_0 18 rfl
theorem dX10_isOf_39 : decode cX10_isOf 39 = .ok (.iconst 2, 1) := dOf oX10_isOf_0 19 rfl
theorem dX10_isOf_40 : decode cX10_isOf 40 = .ok (.if_icmp .ne 10, 3) := dOf oX10_isOf_0 20 rfl
theorem dX10_isOf_43 : decode cX10_isOf 43 = .ok (.iload_n 0, 1) := dOf oX10_isOf_0 21 rfl
theorem dX10_isOf_44 : decode cX10_isOf 44 = .ok (.invokestatic 126, 3) := dOf oX10_isOf_0 22 rfl
theorem dX10_isOf_47 : decode cX10_isOf 47 = .ok (.goto 7, 3) := dOf oX10_isOf_0 23 rfl
theorem dX10_isOf_50 : decode cX10_isOf 50 = .ok (.iload_n 0, 1) := dOf oX10_isOf_0 24 rfl
theorem dX10_isOf_51 : decode cX10_isOf 51 = .ok (.invokestatic 132, 3) := dOf oX10_isOf_0 25 rfl
theorem dX10_isOf_54 : decode cX10_isOf 54 = .ok (.ireturn, 1) := dOf oX10_isOf_0 26 rfl
def eX10_runOf_0 : List (Nat × Instr × Nat) := [(0, .bipush (-4), 2), (2, .istore 5, 2), (4, .iconst 0, 1), (5, .istore 6, 2), (7, .iconst 0, 1), (8, .istore 7, 2), (10, .iload 7, 2), (12, .aload_n 0, 1), (13, .getfield 13, 3), (16, .iload_n 1, 1), (17, .iaload, 1), (18, .if_icmp .ge 116, 3), (21, .iload 7, 2), (23, .istore 8, 2), (25, .aload_n 0, 1), (26, .getfield 7, 3), (29, .bipush 16, 2), (31, .iload_n 1, 1), (32, .imul, 1), (33, .iload 7, 2), (35, .iadd, 1), (36, .iaload, 1), (37, .iload_n 2, 1), (38, .invokestatic 135, 3), (41, .istore 9, 2), (43, .iinc 7 1, 3), (46, .iload 9, 2), (48, .ifCond .eq 44, 3), (51, .iload_n 2, 1), (52, .iconst 3, 1), (53, .if_icmp .eq 39, 3), (56, .iload 7, 2), (58, .aload_n 0, 1), (59, .getfield 13, 3), (62, .iload_n 1, 1), (63, .iaload, 1), (64, .if_icmp .ge 28, 3), (67, .aload_n 0, 1), (68, .getfield 7, 3), (71, .bipush 16, 2), (73, .iload_n 1, 1), (74, .imul, 1), (75, .iload 7, 2), (77, .iadd, 1), (78, .iaload, 1), (79, .iload_n 2, 1), (80, .invokestatic 135, 3), (83, .ifCond .eq 9, 3), (86, .iinc 7 1, 3), (89, .goto (-43), 3), (92, .iload 9, 2), (94, .ifCond .eq 37, 3), (97, .iload 4, 2), (99, .iconst 2, 1), (100, .if_icmp .eq 10, 3), (103, .iload 4, 2), (105, .iload 6, 2), (107, .if_icmp .ne 17, 3), (110, .iload_n 3, 1), (111, .ifCond .ne 8, 3)]
theorem oX10_runOf_0 : okC cX10_runOf eX10_runOf_0 = true := by decide +kernel
theorem dX10_runOf_0 : decode cX10_runOf 0 = .ok (.bipush (-4), 2) := dOf oX10_runOf_0 0 rfl
theorem dX10_runOf_2 : decode cX10_runOf 2 = .ok (.istore 5, 2) := dOf oX10_runOf_0 1 rfl
theorem dX10_runOf_4 : decode cX10_runOf 4 = .ok (.iconst 0, 1) := dOf oX10_runOf_0 2 rfl
theorem dX10_runOf_5 : decode cX10_runOf 5 = .ok (.istore 6, 2) := dOf oX10_runOf_0 3 rfl
theorem dX10_runOf_7 : decode cX10_runOf 7 = .ok (.iconst 0, 1) := dOf oX10_runOf_0 4 rfl
theorem dX10_runOf_8 : decode cX10_runOf 8 = .ok (.istore 7, 2) := dOf oX10_runOf_0 5 rfl
theorem dX10_runOf_10 : decode cX10_runOf 10 = .ok (.iload 7, 2) := dOf oX10_runOf_0 6 rfl
theorem dX10_runOf_12 : decode cX10_runOf 12 = .ok (.aload_n 0, 1) := dOf oX10_runOf_0 7 rfl
theorem dX10_runOf_13 : decode cX10_runOf 13 = .ok (.getfield 13, 3) := dOf oX10_runOf_0 8 rfl
theorem dX10_runOf_16 : decode cX10_runOf 16 = .ok (.iload_n 1, 1) := dOf oX10_runOf_0 9 rfl
theorem dX10_runOf_17 : decode cX10_runOf 17 = .ok (.iaload, 1) := dOf oX10_runOf_0 10 rfl
theorem dX10_runOf_18 : decode cX10_runOf 18 = .ok (.if_icmp .ge 116, 3) := dOf oX10_runOf_0 11 rfl
theorem dX10_runOf_21 : decode cX10_runOf 21 = .ok (.iload 7, 2) := dOf oX10_runOf_0 12 rfl
theorem dX10_runOf_23 : decode cX10_runOf 23 = .ok (.istore 8, 2) := dOf oX10_runOf_0 13 rfl
theorem dX10_runOf_25 : decode cX10_runOf 25 = .ok (.aload_n 0, 1) := dOf oX10_runOf_0 14 rfl
theorem dX10_runOf_26 : decode cX10_runOf 26 = .ok (.getfield 7, 3) := dOf oX10_runOf_0 15 rfl
theorem dX10_runOf_29 : decode cX10_runOf 29 = .ok (.bipush 16, 2) := dOf oX10_runOf_0 16 rfl
theorem dX10_runOf_31 : decode cX10_runOf 31 = .ok (.iload_n 1, 1) := dOf oX10_runOf_0 17 rfl
theorem dX10_runOf_32 : decode cX10_runOf 32 = .ok (.imul, 1) := dOf oX10_runOf_0 18 rfl
theorem dX10_runOf_33 : decode cX10_runOf 33 = .ok (.iload 7, 2) := dOf oX10_runOf_0 19 rfl
theorem dX10_runOf_35 : decode cX10_runOf 35 = .ok (.iadd, 1) := dOf oX10_runOf_0 20 rfl
theorem dX10_runOf_36 : decode cX10_runOf 36 = .ok (.iaload, 1) := dOf oX10_runOf_0 21 rfl
theorem dX10_runOf_37 : decode cX10_runOf 37 = .ok (.iload_n 2, 1) := dOf oX10_runOf_0 22 rfl
theorem dX10_runOf_38 : decode cX10_runOf 38 = .ok (.invokestatic 135, 3) := dOf oX10_runOf_0 23 rfl
theorem dX10_runOf_41 : decode cX10_runOf 41 = .ok (.istore 9, 2) := dOf oX10_runOf_0 24 rfl
theorem dX10_runOf_43 : decode cX10_runOf 43 = .ok (.iinc 7 1, 3) := dOf oX10_runOf_0 25 rfl
theorem dX10_runOf_46 : decode cX10_runOf 46 = .ok (.iload 9, 2) := dOf oX10_runOf_0 26 rfl
theorem dX10_runOf_48 : decode cX10_runOf 48 = .ok (.ifCond .eq 44, 3) := dOf oX10_runOf_0 27 rfl
theorem dX10_runOf_51 : decode cX10_runOf 51 = .ok (.iload_n 2, 1) := dOf oX10_runOf_0 28 rfl
theorem dX10_runOf_52 : decode cX10_runOf 52 = .ok (.iconst 3, 1) := dOf oX10_runOf_0 29 rfl
theorem dX10_runOf_53 : decode cX10_runOf 53 = .ok (.if_icmp .eq 39, 3) := dOf oX10_runOf_0 30 rfl
theorem dX10_runOf_56 : decode cX10_runOf 56 = .ok (.iload 7, 2) := dOf oX10_runOf_0 31 rfl
theorem dX10_runOf_58 : decode cX10_runOf 58 = .ok (.aload_n 0, 1) := dOf oX10_runOf_0 32 rfl
theorem dX10_runOf_59 : decode cX10_runOf 59 = .ok (.getfield 13, 3) := dOf oX10_runOf_0 33 rfl
theorem dX10_runOf_62 : decode cX10_runOf 62 = .ok (.iload_n 1, 1) := dOf oX10_runOf_0 34 rfl
theorem dX10_runOf_63 : decode cX10_runOf 63 = .ok (.iaload, 1) := dOf oX10_runOf_0 35 rfl
theorem dX10_runOf_64 : decode cX10_runOf 64 = .ok (.if_icmp .ge 28, 3) := dOf oX10_runOf_0 36 rfl
theorem dX10_runOf_67 : decode cX10_runOf 67 = .ok (.aload_n 0, 1) := dOf oX10_runOf_0 37 rfl
theorem dX10_runOf_68 : decode cX10_runOf 68 = .ok (.getfield 7, 3) := dOf oX10_runOf_0 38 rfl
theorem dX10_runOf_71 : decode cX10_runOf 71 = .ok (.bipush 16, 2) := dOf oX10_runOf_0 39 rfl
theorem dX10_runOf_73 : decode cX10_runOf 73 = .ok (.iload_n 1, 1) := dOf oX10_runOf_0 40 rfl
theorem dX10_runOf_74 : decode cX10_runOf 74 = .ok (.imul, 1) := dOf oX10_runOf_0 41 rfl
theorem dX10_runOf_75 : decode cX10_runOf 75 = .ok (.iload 7, 2) := dOf oX10_runOf_0 42 rfl
theorem dX10_runOf_77 : decode cX10_runOf 77 = .ok (.iadd, 1) := dOf oX10_runOf_0 43 rfl
theorem dX10_runOf_78 : decode cX10_runOf 78 = .ok (.iaload, 1) := dOf oX10_runOf_0 44 rfl
theorem dX10_runOf_79 : decode cX10_runOf 79 = .ok (.iload_n 2, 1) := dOf oX10_runOf_0 45 rfl
theorem dX10_runOf_80 : decode cX10_runOf 80 = .ok (.invokestatic 135, 3) := dOf oX10_runOf_0 46 rfl
theorem dX10_runOf_83 : decode cX10_runOf 83 = .ok (.ifCond .eq 9, 3) := dOf oX10_runOf_0 47 rfl
theorem dX10_runOf_86 : decode cX10_runOf 86 = .ok (.iinc 7 1, 3) := dOf oX10_runOf_0 48 rfl
theorem dX10_runOf_89 : decode cX10_runOf 89 = .ok (.goto (-43), 3) := dOf oX10_runOf_0 49 rfl
theorem dX10_runOf_92 : decode cX10_runOf 92 = .ok (.iload 9, 2) := dOf oX10_runOf_0 50 rfl
theorem dX10_runOf_94 : decode cX10_runOf 94 = .ok (.ifCond .eq 37, 3) := dOf oX10_runOf_0 51 rfl
theorem dX10_runOf_97 : decode cX10_runOf 97 = .ok (.iload 4, 2) := dOf oX10_runOf_0 52 rfl
theorem dX10_runOf_99 : decode cX10_runOf 99 = .ok (.iconst 2, 1) := dOf oX10_runOf_0 53 rfl
theorem dX10_runOf_100 : decode cX10_runOf 100 = .ok (.if_icmp .eq 10, 3) := dOf oX10_runOf_0 54 rfl
theorem dX10_runOf_103 : decode cX10_runOf 103 = .ok (.iload 4, 2) := dOf oX10_runOf_0 55 rfl
theorem dX10_runOf_105 : decode cX10_runOf 105 = .ok (.iload 6, 2) := dOf oX10_runOf_0 56 rfl
theorem dX10_runOf_107 : decode cX10_runOf 107 = .ok (.if_icmp .ne 17, 3) := dOf oX10_runOf_0 57 rfl
theorem dX10_runOf_110 : decode cX10_runOf 110 = .ok (.iload_n 3, 1) := dOf oX10_runOf_0 58 rfl
theorem dX10_runOf_111 : decode cX10_runOf 111 = .ok (.ifCond .ne 8, 3) := dOf oX10_runOf_0 59 rfl
def eX10_runOf_1 : List (Nat × Instr × Nat) := [(114, .iload 8, 2), (116, .goto 10, 3), (119, .iload 7, 2), (121, .goto 5, 3), (124, .iload 5, 2), (126, .istore 5, 2), (128, .iinc 6 1, 3), (131, .goto (-121), 3), (134, .iload 5, 2), (136, .ireturn, 1)]
theorem oX10_runOf_1 : okC cX10_runOf eX10_runOf_1 = true := by decide +kernel
theorem dX10_runOf_114 : decode cX10_runOf 114 = .ok (.iload 8, 2) := dOf oX10_runOf_1 0 rfl
theorem dX10_runOf_116 : decode cX10_runOf 116 = .ok (.goto 10, 3) := dOf oX10_runOf_1 1 rfl
theorem dX10_runOf_119 : decode cX10_runOf 119 = .ok (.iload 7, 2) := dOf oX10_runOf_1 2 rfl
theorem dX10_runOf_121 : decode cX10_runOf 121 = .ok (.goto 5, 3) := dOf oX10_runOf_1 3 rfl
theorem dX10_runOf_124 : decode cX10_runOf 124 = .ok (.iload 5, 2) := dOf oX10_runOf_1 4 rfl
theorem dX10_runOf_126 : decode cX10_runOf 126 = .ok (.istore 5, 2) := dOf oX10_runOf_1 5 rfl
theorem dX10_runOf_128 : decode cX10_runOf 128 = .ok (.iinc 6 1, 3) := dOf oX10_runOf_1 6 rfl
theorem dX10_runOf_131 : decode cX10_runOf 131 = .ok (.goto (-121), 3) := dOf oX10_runOf_1 7 rfl
theorem dX10_runOf_134 : decode cX10_runOf 134 = .ok (.iload 5, 2) := dOf oX10_runOf_1 8 rfl
theorem dX10_runOf_136 : decode cX10_runOf 136 = .ok (.ireturn, 1) := dOf oX10_runOf_1 9 rfl
def eX10_placeOf_0 : List (Nat × Instr × Nat) := [(0, .iload_n 2, 1), (1, .bipush 16, 2), (3, .if_icmp .ge 48, 3), (6, .iload_n 2, 1), (7, .bipush 8, 2), (9, .if_icmp .ge 7, 3), (12, .iload_n 2, 1), (13, .goto 14, 3), (16, .aload_n 0, 1), (17, .getfield 13, 3), (20, .iload_n 1, 1), (21, .iaload, 1), (22, .iload_n 2, 1), (23, .bipush 8, 2), (25, .isub, 1), (26, .isub, 1), (27, .istore_n 3, 1), (28, .iload_n 3, 1), (29, .i2l, 1), (30, .lconst 0, 1), (31, .aload_n 0, 1), (32, .getfield 13, 3), (35, .iload_n 1, 1), (36, .iaload, 1), (37, .i2l, 1), (38, .invokestatic 84, 3), (41, .ifCond .eq 7, 3), (44, .iload_n 3, 1), (45, .goto 5, 3), (48, .bipush (-4), 2), (50, .ireturn, 1), (51, .iload_n 2, 1), (52, .bipush 16, 2), (54, .isub, 1), (55, .istore_n 3, 1), (56, .aload_n 0, 1), (57, .iload_n 1, 1), (58, .iload_n 3, 1), (59, .bipush 6, 2), (61, .idiv, 1), (62, .iload_n 3, 1), (63, .iconst 3, 1), (64, .idiv, 1), (65, .iconst 2, 1), (66, .irem, 1), (67, .iload_n 3, 1), (68, .iconst 3, 1), (69, .irem, 1), (70, .invokevirtual 139, 3), (73, .ireturn, 1)]
theorem oX10_placeOf_0 : okC cX10_placeOf eX10_placeOf_0 = true := by decide +kernel
theorem dX10_placeOf_0 : decode cX10_placeOf 0 = .ok (.iload_n 2, 1) := dOf oX10_placeOf_0 0 rfl
theorem dX10_placeOf_1 : decode cX10_placeOf 1 = .ok (.bipush 16, 2) := dOf oX10_placeOf_0 1 rfl
theorem dX10_placeOf_3 : decode cX10_placeOf 3 = .ok (.if_icmp .ge 48, 3) := dOf oX10_placeOf_0 2 rfl
theorem dX10_placeOf_6 : decode cX10_placeOf 6 = .ok (.iload_n 2, 1) := dOf oX10_placeOf_0 3 rfl
theorem dX10_placeOf_7 : decode cX10_placeOf 7 = .ok (.bipush 8, 2) := dOf oX10_placeOf_0 4 rfl
theorem dX10_placeOf_9 : decode cX10_placeOf 9 = .ok (.if_icmp .ge 7, 3) := dOf oX10_placeOf_0 5 rfl
theorem dX10_placeOf_12 : decode cX10_placeOf 12 = .ok (.iload_n 2, 1) := dOf oX10_placeOf_0 6 rfl
theorem dX10_placeOf_13 : decode cX10_placeOf 13 = .ok (.goto 14, 3) := dOf oX10_placeOf_0 7 rfl
theorem dX10_placeOf_16 : decode cX10_placeOf 16 = .ok (.aload_n 0, 1) := dOf oX10_placeOf_0 8 rfl
theorem dX10_placeOf_17 : decode cX10_placeOf 17 = .ok (.getfield 13, 3) := dOf oX10_placeOf_0 9 rfl
theorem dX10_placeOf_20 : decode cX10_placeOf 20 = .ok (.iload_n 1, 1) := dOf oX10_placeOf_0 10 rfl
theorem dX10_placeOf_21 : decode cX10_placeOf 21 = .ok (.iaload, 1) := dOf oX10_placeOf_0 11 rfl
theorem dX10_placeOf_22 : decode cX10_placeOf 22 = .ok (.iload_n 2, 1) := dOf oX10_placeOf_0 12 rfl
theorem dX10_placeOf_23 : decode cX10_placeOf 23 = .ok (.bipush 8, 2) := dOf oX10_placeOf_0 13 rfl
theorem dX10_placeOf_25 : decode cX10_placeOf 25 = .ok (.isub, 1) := dOf oX10_placeOf_0 14 rfl
theorem dX10_placeOf_26 : decode cX10_placeOf 26 = .ok (.isub, 1) := dOf oX10_placeOf_0 15 rfl
theorem dX10_placeOf_27 : decode cX10_placeOf 27 = .ok (.istore_n 3, 1) := dOf oX10_placeOf_0 16 rfl
theorem dX10_placeOf_28 : decode cX10_placeOf 28 = .ok (.iload_n 3, 1) := dOf oX10_placeOf_0 17 rfl
theorem dX10_placeOf_29 : decode cX10_placeOf 29 = .ok (.i2l, 1) := dOf oX10_placeOf_0 18 rfl
theorem dX10_placeOf_30 : decode cX10_placeOf 30 = .ok (.lconst 0, 1) := dOf oX10_placeOf_0 19 rfl
theorem dX10_placeOf_31 : decode cX10_placeOf 31 = .ok (.aload_n 0, 1) := dOf oX10_placeOf_0 20 rfl
theorem dX10_placeOf_32 : decode cX10_placeOf 32 = .ok (.getfield 13, 3) := dOf oX10_placeOf_0 21 rfl
theorem dX10_placeOf_35 : decode cX10_placeOf 35 = .ok (.iload_n 1, 1) := dOf oX10_placeOf_0 22 rfl
theorem dX10_placeOf_36 : decode cX10_placeOf 36 = .ok (.iaload, 1) := dOf oX10_placeOf_0 23 rfl
theorem dX10_placeOf_37 : decode cX10_placeOf 37 = .ok (.i2l, 1) := dOf oX10_placeOf_0 24 rfl
theorem dX10_placeOf_38 : decode cX10_placeOf 38 = .ok (.invokestatic 84, 3) := dOf oX10_placeOf_0 25 rfl
theorem dX10_placeOf_41 : decode cX10_placeOf 41 = .ok (.ifCond .eq 7, 3) := dOf oX10_placeOf_0 26 rfl
theorem dX10_placeOf_44 : decode cX10_placeOf 44 = .ok (.iload_n 3, 1) := dOf oX10_placeOf_0 27 rfl
theorem dX10_placeOf_45 : decode cX10_placeOf 45 = .ok (.goto 5, 3) := dOf oX10_placeOf_0 28 rfl
theorem dX10_placeOf_48 : decode cX10_placeOf 48 = .ok (.bipush (-4), 2) := dOf oX10_placeOf_0 29 rfl
theorem dX10_placeOf_50 : decode cX10_placeOf 50 = .ok (.ireturn, 1) := dOf oX10_placeOf_0 30 rfl
theorem dX10_placeOf_51 : decode cX10_placeOf 51 = .ok (.iload_n 2, 1) := dOf oX10_placeOf_0 31 rfl
theorem dX10_placeOf_52 : decode cX10_placeOf 52 = .ok (.bipush 16, 2) := dOf oX10_placeOf_0 32 rfl
theorem dX10_placeOf_54 : decode cX10_placeOf 54 = .ok (.isub, 1) := dOf oX10_placeOf_0 33 rfl
theorem dX10_placeOf_55 : decode cX10_placeOf 55 = .ok (.istore_n 3, 1) := dOf oX10_placeOf_0 34 rfl
theorem dX10_placeOf_56 : decode cX10_placeOf 56 = .ok (.aload_n 0, 1) := dOf oX10_placeOf_0 35 rfl
theorem dX10_placeOf_57 : decode cX10_placeOf 57 = .ok (.iload_n 1, 1) := dOf oX10_placeOf_0 36 rfl
theorem dX10_placeOf_58 : decode cX10_placeOf 58 = .ok (.iload_n 3, 1) := dOf oX10_placeOf_0 37 rfl
theorem dX10_placeOf_59 : decode cX10_placeOf 59 = .ok (.bipush 6, 2) := dOf oX10_placeOf_0 38 rfl
theorem dX10_placeOf_61 : decode cX10_placeOf 61 = .ok (.idiv, 1) := dOf oX10_placeOf_0 39 rfl
theorem dX10_placeOf_62 : decode cX10_placeOf 62 = .ok (.iload_n 3, 1) := dOf oX10_placeOf_0 40 rfl
theorem dX10_placeOf_63 : decode cX10_placeOf 63 = .ok (.iconst 3, 1) := dOf oX10_placeOf_0 41 rfl
theorem dX10_placeOf_64 : decode cX10_placeOf 64 = .ok (.idiv, 1) := dOf oX10_placeOf_0 42 rfl
theorem dX10_placeOf_65 : decode cX10_placeOf 65 = .ok (.iconst 2, 1) := dOf oX10_placeOf_0 43 rfl
theorem dX10_placeOf_66 : decode cX10_placeOf 66 = .ok (.irem, 1) := dOf oX10_placeOf_0 44 rfl
theorem dX10_placeOf_67 : decode cX10_placeOf 67 = .ok (.iload_n 3, 1) := dOf oX10_placeOf_0 45 rfl
theorem dX10_placeOf_68 : decode cX10_placeOf 68 = .ok (.iconst 3, 1) := dOf oX10_placeOf_0 46 rfl
theorem dX10_placeOf_69 : decode cX10_placeOf 69 = .ok (.irem, 1) := dOf oX10_placeOf_0 47 rfl
theorem dX10_placeOf_70 : decode cX10_placeOf 70 = .ok (.invokevirtual 139, 3) := dOf oX10_placeOf_0 48 rfl
theorem dX10_placeOf_73 : decode cX10_placeOf 73 = .ok (.ireturn, 1) := dOf oX10_placeOf_0 49 rfl
def eX10_place_0 : List (Nat × Instr × Nat) := [(0, .aload_n 0, 1), (1, .iload_n 1, 1), (2, .invokevirtual 105, 3), (5, .ifCond .eq 24, 3), (8, .iload_n 2, 1), (9, .i2l, 1), (10, .lconst 0, 1), (11, .ldc2_w 143, 3), (14, .invokestatic 84, 3), (17, .ifCond .eq 12, 3), (20, .aload_n 0, 1), (21, .iload_n 1, 1), (22, .iload_n 2, 1), (23, .invokevirtual 145, 3), (26, .goto 4, 3), (29, .iconst (-1), 1), (30, .ireturn, 1)]
theorem oX10_place_0 : okC cX10_place eX10_place_0 = true := by decide +kernel
theorem dX10_place_0 : decode cX10_place 0 = .ok (.aload_n 0, 1) := dOf oX10_place_0 0 rfl
theorem dX10_place_1 : decode cX10_place 1 = .ok (.iload_n 1, 1) := dOf oX10_place_0 1 rfl
theorem dX10_place_2 : decode cX10_place 2 = .ok (.invokevirtual 105, 3) := dOf oX10_place_0 2 rfl
theorem dX10_place_5 : decode cX10_place 5 = .ok (.ifCond .eq 24, 3) := dOf oX10_place_0 3 rfl
theorem dX10_place_8 : decode cX10_place 8 = .ok (.iload_n 2, 1) := dOf oX10_place_0 4 rfl
theorem dX10_place_9 : decode cX10_place 9 = .ok (.i2l, 1) := dOf oX10_place_0 5 rfl
theorem dX10_place_10 : decode cX10_place 10 = .ok (.lconst 0, 1) := dOf oX10_place_0 6 rfl
theorem dX10_place_11 : decode cX10_place 11 = .ok (.ldc2_w 143, 3) := dOf oX10_place_0 7 rfl
theorem dX10_place_14 : decode cX10_place 14 = .ok (.invokestatic 84, 3) := dOf oX10_place_0 8 rfl
theorem dX10_place_17 : decode cX10_place 17 = .ok (.ifCond .eq 12, 3) := dOf oX10_place_0 9 rfl
theorem dX10_place_20 : decode cX10_place 20 = .ok (.aload_n 0, 1) := dOf oX10_place_0 10 rfl
theorem dX10_place_21 : decode cX10_place 21 = .ok (.iload_n 1, 1) := dOf oX10_place_0 11 rfl
theorem dX10_place_22 : decode cX10_place 22 = .ok (.iload_n 2, 1) := dOf oX10_place_0 12 rfl
theorem dX10_place_23 : decode cX10_place 23 = .ok (.invokevirtual 145, 3) := dOf oX10_place_0 13 rfl
theorem dX10_place_26 : decode cX10_place 26 = .ok (.goto 4, 3) := dOf oX10_place_0 14 rfl
theorem dX10_place_29 : decode cX10_place 29 = .ok (.iconst (-1), 1) := dOf oX10_place_0 15 rfl
theorem dX10_place_30 : decode cX10_place 30 = .ok (.ireturn, 1) := dOf oX10_place_0 16 rfl
def eX10_turned_0 : List (Nat × Instr × Nat) := [(0, .iload_n 1, 1), (1, .iconst 1, 1), (2, .if_icmp .ne 17, 3), (5, .iload_n 0, 1), (6, .invokestatic 129, 3), (9, .ifCond .eq 10, 3), (12, .iload_n 0, 1), (13, .bipush 32, 2), (15, .isub, 1), (16, .goto 23, 3), (19, .iload_n 1, 1), (20, .iconst 2, 1), (21, .if_icmp .ne 17, 3), (24, .iload_n 0, 1), (25, .invokestatic 126, 3), (28, .ifCond .eq 10, 3), (31, .iload_n 0, 1), (32, .bipush 32, 2), (34, .iadd, 1), (35, .goto 4, 3), (38, .iload_n 0, 1), (39, .ireturn, 1)]
theorem oX10_turned_0 : okC cX10_turned eX10_turned_0 = true := by decide +kernel
theorem dX10_turned_0 : decode cX10_turned 0 = .ok (.iload_n 1, 1) := dOf oX10_turned_0 0 rfl
theorem dX10_turned_1 : decode cX10_turned 1 = .ok (.iconst 1, 1) := dOf oX10_turned_0 1 rfl
theorem dX10_turned_2 : decode cX10_turned 2 = .ok (.if_icmp .ne 17, 3) := dOf oX10_turned_0 2 rfl
theorem dX10_turned_5 : decode cX10_turned 5 = .ok (.iload_n 0, 1) := dOf oX10_turned_0 3 rfl
theorem dX10_turned_6 : decode cX10_turned 6 = .ok (.invokestatic 129, 3) := dOf oX10_turned_0 4 rfl
theorem dX10_turned_9 : decode cX10_turned 9 = .ok (.ifCond .eq 10, 3) := dOf oX10_turned_0 5 rfl
theorem dX10_turned_12 : decode cX10_turned 12 = .ok (.iload_n 0, 1) := dOf oX10_turned_0 6 rfl
theorem dX10_turned_13 : decode cX10_turned 13 = .ok (.bipush 32, 2) := dOf oX10_turned_0 7 rfl
theorem dX10_turned_15 : decode cX10_turned 15 = .ok (.isub, 1) := dOf oX10_turned_0 8 rfl
theorem dX10_turned_16 : decode cX10_turned 16 = .ok (.goto 23, 3) := dOf oX10_turned_0 9 rfl
theorem dX10_turned_19 : decode cX10_turned 19 = .ok (.iload_n 1, 1) := dOf oX10_turned_0 10 rfl
theorem dX10_turned_20 : decode cX10_turned 20 = .ok (.iconst 2, 1) := dOf oX10_turned_0 11 rfl
theorem dX10_turned_21 : decode cX10_turned 21 = .ok (.if_icmp .ne 17, 3) := dOf oX10_turned_0 12 rfl
theorem dX10_turned_24 : decode cX10_turned 24 = .ok (.iload_n 0, 1) := dOf oX10_turned_0 13 rfl
theorem dX10_turned_25 : decode cX10_turned 25 = .ok (.invokestatic 126, 3) := dOf oX10_turned_0 14 rfl
theorem dX10_turned_28 : decode cX10_turned 28 = .ok (.ifCond .eq 10, 3) := dOf oX10_turned_0 15 rfl
theorem dX10_turned_31 : decode cX10_turned 31 = .ok (.iload_n 0, 1) := dOf oX10_turned_0 16 rfl
theorem dX10_turned_32 : decode cX10_turned 32 = .ok (.bipush 32, 2) := dOf oX10_turned_0 17 rfl
theorem dX10_turned_34 : decode cX10_turned 34 = .ok (.iadd, 1) := dOf oX10_turned_0 18 rfl
theorem dX10_turned_35 : decode cX10_turned 35 = .ok (.goto 4, 3) := dOf oX10_turned_0 19 rfl
theorem dX10_turned_38 : decode cX10_turned 38 = .ok (.iload_n 0, 1) := dOf oX10_turned_0 20 rfl
theorem dX10_turned_39 : decode cX10_turned 39 = .ok (.ireturn, 1) := dOf oX10_turned_0 21 rfl
def eX10_makePiece_0 : List (Nat × Instr × Nat) := [(0, .iload_n 2, 1), (1, .ldc 149, 2), (3, .if_icmp .lt 51, 3), (6, .iload_n 2, 1), (7, .ldc 149, 2), (9, .idiv, 1), (10, .iconst 1, 1), (11, .isub, 1), (12, .istore_n 3, 1), (13, .iload_n 3, 1), (14, .ifCond .lt 38, 3), (17, .aload_n 0, 1), (18, .getfield 31, 3), (21, .aload_n 0, 1), (22, .getfield 150, 3), (25, .iload_n 2, 1), (26, .bipush 8, 2), (28, .iload_n 3, 1), (29, .imul, 1), (30, .ishr, 1), (31, .sipush 255, 3), (34, .iand, 1), (35, .iastore, 1), (36, .aload_n 0, 1), (37, .dup, 1), (38, .getfield 150, 3), (41, .iconst 1, 1), (42, .iadd, 1), (43, .putfield 150, 3), (46, .iinc 3 (-1), 3), (49, .goto (-36), 3), (52, .iconst 1, 1), (53, .ireturn, 1), (54, .aload_n 0, 1), (55, .iload_n 1, 1), (56, .iload_n 2, 1), (57, .bipush 120, 2), (59, .idiv, 1), (60, .invokevirtual 145, 3), (63, .istore_n 3, 1), (64, .aload_n 0, 1), (65, .iload_n 1, 1), (66, .iload_n 2, 1), (67, .iconst 3, 1), (68, .idiv, 1), (69, .bipush 40, 2), (71, .irem, 1), (72, .invokevirtual 145, 3), (75, .istore 4, 2), (77, .iload_n 3, 1), (78, .ifCond .lt 9, 3), (81, .iload 4, 2), (83, .iload_n 3, 1), (84, .if_icmp .gt 5, 3), (87, .iconst 0, 1), (88, .ireturn, 1), (89, .iload_n 3, 1), (90, .istore 5, 2), (92, .iload 5, 2), (94, .iload 4, 2)]
theorem oX10_makePiece_0 : okC cX10_makePiece eX10_makePiece_0 = true := by decide +kernel
theorem dX10_makePiece_0 : decode cX10_makePiece 0 = .ok (.iload_n 2, 1) := dOf oX10_makePiece_0 0 rfl
theorem dX10_makePiece_1 : decode cX10_makePiece 1 = .ok (.ldc 149, 2) := dOf oX10_makePiece_0 1 rfl
theorem dX10_makePiece_3 : decode cX10_makePiece 3 = .ok (.if_icmp .lt 51, 3) := dOf oX10_makePiece_0 2 rfl
theorem dX10_makePiece_6 : decode cX10_makePiece 6 = .ok (.iload_n 2, 1) := dOf oX10_makePiece_0 3 rfl
theorem dX10_makePiece_7 : decode cX10_makePiece 7 = .ok (.ldc 149, 2) := dOf oX10_makePiece_0 4 rfl
theorem dX10_makePiece_9 : decode cX10_makePiece 9 = .ok (.idiv, 1) := dOf oX10_makePiece_0 5 rfl
theorem dX10_makePiece_10 : decode cX10_makePiece 10 = .ok (.iconst 1, 1) := dOf oX10_makePiece_0 6 rfl
theorem dX10_makePiece_11 : decode cX10_makePiece 11 = .ok (.isub, 1) := dOf oX10_makePiece_0 7 rfl
theorem dX10_makePiece_12 : decode cX10_makePiece 12 = .ok (.istore_n 3, 1) := dOf oX10_makePiece_0 8 rfl
theorem dX10_makePiece_13 : decode cX10_makePiece 13 = .ok (.iload_n 3, 1) := dOf oX10_makePiece_0 9 rfl
theorem dX10_makePiece_14 : decode cX10_makePiece 14 = .ok (.ifCond .lt 38, 3) := dOf oX10_makePiece_0 10 rfl
theorem dX10_makePiece_17 : decode cX10_makePiece 17 = .ok (.aload_n 0, 1) := dOf oX10_makePiece_0 11 rfl
theorem dX10_makePiece_18 : decode cX10_makePiece 18 = .ok (.getfield 31, 3) := dOf oX10_makePiece_0 12 rfl
theorem dX10_makePiece_21 : decode cX10_makePiece 21 = .ok (.aload_n 0, 1) := dOf oX10_makePiece_0 13 rfl
theorem dX10_makePiece_22 : decode cX10_makePiece 22 = .ok (.getfield 150, 3) := dOf oX10_makePiece_0 14 rfl
theorem dX10_makePiece_25 : decode cX10_makePiece 25 = .ok (.iload_n 2, 1) := dOf oX10_makePiece_0 15 rfl
theorem dX10_makePiece_26 : decode cX10_makePiece 26 = .ok (.bipush 8, 2) := dOf oX10_makePiece_0 16 rfl
theorem dX10_makePiece_28 : decode cX10_makePiece 28 = .ok (.iload_n 3, 1) := dOf oX10_makePiece_0 17 rfl
theorem dX10_makePiece_29 : decode cX10_makePiece 29 = .ok (.imul, 1) := dOf oX10_makePiece_0 18 rfl
theorem dX10_makePiece_30 : decode cX10_makePiece 30 = .ok (.ishr, 1) := dOf oX10_makePiece_0 19 rfl
theorem dX10_makePiece_31 : decode cX10_makePiece 31 = .ok (.sipush 255, 3) := dOf oX10_makePiece_0 20 rfl
theorem dX10_makePiece_34 : decode cX10_makePiece 34 = .ok (.iand, 1) := dOf oX10_makePiece_0 21 rfl
theorem dX10_makePiece_35 : decode cX10_makePiece 35 = .ok (.iastore, 1) := dOf oX10_makePiece_0 22 rfl
theorem dX10_makePiece_36 : decode cX10_makePiece 36 = .ok (.aload_n 0, 1) := dOf oX10_makePiece_0 23 rfl
theorem dX10_makePiece_37 : decode cX10_makePiece 37 = .ok (.dup, 1) := dOf oX10_makePiece_0 24 rfl
theorem dX10_makePiece_38 : decode cX10_makePiece 38 = .ok (.getfield 150, 3) := dOf oX10_makePiece_0 25 rfl
theorem dX10_makePiece_41 : decode cX10_makePiece 41 = .ok (.iconst 1, 1) := dOf oX10_makePiece_0 26 rfl
theorem dX10_makePiece_42 : decode cX10_makePiece 42 = .ok (.iadd, 1) := dOf oX10_makePiece_0 27 rfl
theorem dX10_makePiece_43 : decode cX10_makePiece 43 = .ok (.putfield 150, 3) := dOf oX10_makePiece_0 28 rfl
theorem dX10_makePiece_46 : decode cX10_makePiece 46 = .ok (.iinc 3 (-1), 3) := dOf oX10_makePiece_0 29 rfl
theorem dX10_makePiece_49 : decode cX10_makePiece 49 = .ok (.goto (-36), 3) := dOf oX10_makePiece_0 30 rfl
theorem dX10_makePiece_52 : decode cX10_makePiece 52 = .ok (.iconst 1, 1) := dOf oX10_makePiece_0 31 rfl
theorem dX10_makePiece_53 : decode cX10_makePiece 53 = .ok (.ireturn, 1) := dOf oX10_makePiece_0 32 rfl
theorem dX10_makePiece_54 : decode cX10_makePiece 54 = .ok (.aload_n 0, 1) := dOf oX10_makePiece_0 33 rfl
theorem dX10_makePiece_55 : decode cX10_makePiece 55 = .ok (.iload_n 1, 1) := dOf oX10_makePiece_0 34 rfl
theorem dX10_makePiece_56 : decode cX10_makePiece 56 = .ok (.iload_n 2, 1) := dOf oX10_makePiece_0 35 rfl
theorem dX10_makePiece_57 : decode cX10_makePiece 57 = .ok (.bipush 120, 2) := dOf oX10_makePiece_0 36 rfl
theorem dX10_makePiece_59 : decode cX10_makePiece 59 = .ok (.idiv, 1) := dOf oX10_makePiece_0 37 rfl
theorem dX10_makePiece_60 : decode cX10_makePiece 60 = .ok (.invokevirtual 145, 3) := dOf oX10_makePiece_0 38 rfl
theorem dX10_makePiece_63 : decode cX10_makePiece 63 = .ok (.istore_n 3, 1) := dOf oX10_makePiece_0 39 rfl
theorem dX10_makePiece_64 : decode cX10_makePiece 64 = .ok (.aload_n 0, 1) := dOf oX10_makePiece_0 40 rfl
theorem dX10_makePiece_65 : decode cX10_makePiece 65 = .ok (.iload_n 1, 1) := dOf oX10_makePiece_0 41 rfl
theorem dX10_makePiece_66 : decode cX10_makePiece 66 = .ok (.iload_n 2, 1) := dOf oX10_makePiece_0 42 rfl
theorem dX10_makePiece_67 : decode cX10_makePiece 67 = .ok (.iconst 3, 1) := dOf oX10_makePiece_0 43 rfl
theorem dX10_makePiece_68 : decode cX10_makePiece 68 = .ok (.idiv, 1) := dOf oX10_makePiece_0 44 rfl
theorem dX10_makePiece_69 : decode cX10_makePiece 69 = .ok (.bipush 40, 2) := dOf oX10_makePiece_0 45 rfl
theorem dX10_makePiece_71 : decode cX10_makePiece 71 = .ok (.irem, 1) := dOf oX10_makePiece_0 46 rfl
theorem dX10_makePiece_72 : decode cX10_makePiece 72 = .ok (.invokevirtual 145, 3) := dOf oX10_makePiece_0 47 rfl
theorem dX10_makePiece_75 : decode cX10_makePiece 75 = .ok (.istore 4, 2) := dOf oX10_makePiece_0 48 rfl
theorem dX10_makePiece_77 : decode cX10_makePiece 77 = .ok (.iload_n 3, 1) := dOf oX10_makePiece_0 49 rfl
theorem dX10_makePiece_78 : decode cX10_makePiece 78 = .ok (.ifCond .lt 9, 3) := dOf oX10_makePiece_0 50 rfl
theorem dX10_makePiece_81 : decode cX10_makePiece 81 = .ok (.iload 4, 2) := dOf oX10_makePiece_0 51 rfl
theorem dX10_makePiece_83 : decode cX10_makePiece 83 = .ok (.iload_n 3, 1) := dOf oX10_makePiece_0 52 rfl
theorem dX10_makePiece_84 : decode cX10_makePiece 84 = .ok (.if_icmp .gt 5, 3) := dOf oX10_makePiece_0 53 rfl
theorem dX10_makePiece_87 : decode cX10_makePiece 87 = .ok (.iconst 0, 1) := dOf oX10_makePiece_0 54 rfl
theorem dX10_makePiece_88 : decode cX10_makePiece 88 = .ok (.ireturn, 1) := dOf oX10_makePiece_0 55 rfl
theorem dX10_makePiece_89 : decode cX10_makePiece 89 = .ok (.iload_n 3, 1) := dOf oX10_makePiece_0 56 rfl
theorem dX10_makePiece_90 : decode cX10_makePiece 90 = .ok (.istore 5, 2) := dOf oX10_makePiece_0 57 rfl
theorem dX10_makePiece_92 : decode cX10_makePiece 92 = .ok (.iload 5, 2) := dOf oX10_makePiece_0 58 rfl
theorem dX10_makePiece_94 : decode cX10_makePiece 94 = .ok (.iload 4, 2) := dOf oX10_makePiece_0 59 rfl
def eX10_makePiece_1 : List (Nat × Instr × Nat) := [(96, .if_icmp .ge 46, 3), (99, .aload_n 0, 1), (100, .getfield 31, 3), (103, .aload_n 0, 1), (104, .getfield 150, 3), (107, .aload_n 0, 1), (108, .getfield 7, 3), (111, .bipush 16, 2), (113, .iload_n 1, 1), (114, .imul, 1), (115, .iload 5, 2), (117, .iadd, 1), (118, .iaload, 1), (119, .iload_n 2, 1), (120, .iconst 3, 1), (121, .irem, 1), (122, .invokestatic 153, 3), (125, .iastore, 1), (126, .aload_n 0, 1), (127, .dup, 1), (128, .getfield 150, 3), (131, .iconst 1, 1), (132, .iadd, 1), (133, .putfield 150, 3), (136, .iinc 5 1, 3), (139, .goto (-47), 3), (142, .iconst 1, 1), (143, .ireturn, 1)]
theorem oX10_makePiece_1 : okC cX10_makePiece eX10_makePiece_1 = true := by decide +kernel
theorem dX10_makePiece_96 : decode cX10_makePiece 96 = .ok (.if_icmp .ge 46, 3) := dOf oX10_makePiece_1 0 rfl
theorem dX10_makePiece_99 : decode cX10_makePiece 99 = .ok (.aload_n 0, 1) := dOf oX10_makePiece_1 1 rfl
theorem dX10_makePiece_100 : decode cX10_makePiece 100 = .ok (.getfield 31, 3) := dOf oX10_makePiece_1 2 rfl
theorem dX10_makePiece_103 : decode cX10_makePiece 103 = .ok (.aload_n 0, 1) := dOf oX10_makePiece_1 3 rfl
theorem dX10_makePiece_104 : decode cX10_makePiece 104 = .ok (.getfield 150, 3) := dOf oX10_makePiece_1 4 rfl
theorem dX10_makePiece_107 : decode cX10_makePiece 107 = .ok (.aload_n 0, 1) := dOf oX10_makePiece_1 5 rfl
theorem dX10_makePiece_108 : decode cX10_makePiece 108 = .ok (.getfield 7, 3) := dOf oX10_makePiece_1 6 rfl
theorem dX10_makePiece_111 : decode cX10_makePiece 111 = .ok (.bipush 16, 2) := dOf oX10_makePiece_1 7 rfl
theorem dX10_makePiece_113 : decode cX10_makePiece 113 = .ok (.iload_n 1, 1) := dOf oX10_makePiece_1 8 rfl
theorem dX10_makePiece_114 : decode cX10_makePiece 114 = .ok (.imul, 1) := dOf oX10_makePiece_1 9 rfl
theorem dX10_makePiece_115 : decode cX10_makePiece 115 = .ok (.iload 5, 2) := dOf oX10_makePiece_1 10 rfl
theorem dX10_makePiece_117 : decode cX10_makePiece 117 = .ok (.iadd, 1) := dOf oX10_makePiece_1 11 rfl
theorem dX10_makePiece_118 : decode cX10_makePiece 118 = .ok (.iaload, 1) := dOf oX10_makePiece_1 12 rfl
theorem dX10_makePiece_119 : decode cX10_makePiece 119 = .ok (.iload_n 2, 1) := dOf oX10_makePiece_1 13 rfl
theorem dX10_makePiece_120 : decode cX10_makePiece 120 = .ok (.iconst 3, 1) := dOf oX10_makePiece_1 14 rfl
theorem dX10_makePiece_121 : decode cX10_makePiece 121 = .ok (.irem, 1) := dOf oX10_makePiece_1 15 rfl
theorem dX10_makePiece_122 : decode cX10_makePiece 122 = .ok (.invokestatic 153, 3) := dOf oX10_makePiece_1 16 rfl
theorem dX10_makePiece_125 : decode cX10_makePiece 125 = .ok (.iastore, 1) := dOf oX10_makePiece_1 17 rfl
theorem dX10_makePiece_126 : decode cX10_makePiece 126 = .ok (.aload_n 0, 1) := dOf oX10_makePiece_1 18 rfl
theorem dX10_makePiece_127 : decode cX10_makePiece 127 = .ok (.dup, 1) := dOf oX10_makePiece_1 19 rfl
theorem dX10_makePiece_128 : decode cX10_makePiece 128 = .ok (.getfield 150, 3) := dOf oX10_makePiece_1 20 rfl
theorem dX10_makePiece_131 : decode cX10_makePiece 131 = .ok (.iconst 1, 1) := dOf oX10_makePiece_1 21 rfl
theorem dX10_makePiece_132 : decode cX10_makePiece 132 = .ok (.iadd, 1) := dOf oX10_makePiece_1 22 rfl
theorem dX10_makePiece_133 : decode cX10_makePiece 133 = .ok (.putfield 150, 3) := dOf oX10_makePiece_1 23 rfl
theorem dX10_makePiece_136 : decode cX10_makePiece 136 = .ok (.iinc 5 1, 3) := dOf oX10_makePiece_1 24 rfl
theorem dX10_makePiece_139 : decode cX10_makePiece 139 = .ok (.goto (-47), 3) := dOf oX10_makePiece_1 25 rfl
theorem dX10_makePiece_142 : decode cX10_makePiece 142 = .ok (.iconst 1, 1) := dOf oX10_makePiece_1 26 rfl
theorem dX10_makePiece_143 : decode cX10_makePiece 143 = .ok (.ireturn, 1) := dOf oX10_makePiece_1 27 rfl
def eX10_byteOf_0 : List (Nat × Instr × Nat) := [(0, .iload_n 1, 1), (1, .ifCond .ge 10, 3), (4, .aload_n 0, 1), (5, .getfield 150, 3), (8, .goto 21, 3), (11, .iload_n 1, 1), (12, .aload_n 0, 1), (13, .getfield 150, 3), (16, .if_icmp .ge 12, 3), (19, .aload_n 0, 1), (20, .getfield 31, 3), (23, .iload_n 1, 1), (24, .iaload, 1), (25, .goto 4, 3), (28, .iconst (-1), 1), (29, .ireturn, 1)]
theorem oX10_byteOf_0 : okC cX10_byteOf eX10_byteOf_0 = true := by decide +kernel
theorem dX10_byteOf_0 : decode cX10_byteOf 0 = .ok (.iload_n 1, 1) := dOf oX10_byteOf_0 0 rfl
theorem dX10_byteOf_1 : decode cX10_byteOf 1 = .ok (.ifCond .ge 10, 3) := dOf oX10_byteOf_0 1 rfl
theorem dX10_byteOf_4 : decode cX10_byteOf 4 = .ok (.aload_n 0, 1) := dOf oX10_byteOf_0 2 rfl
theorem dX10_byteOf_5 : decode cX10_byteOf 5 = .ok (.getfield 150, 3) := dOf oX10_byteOf_0 3 rfl
theorem dX10_byteOf_8 : decode cX10_byteOf 8 = .ok (.goto 21, 3) := dOf oX10_byteOf_0 4 rfl
theorem dX10_byteOf_11 : decode cX10_byteOf 11 = .ok (.iload_n 1, 1) := dOf oX10_byteOf_0 5 rfl
theorem dX10_byteOf_12 : decode cX10_byteOf 12 = .ok (.aload_n 0, 1) := dOf oX10_byteOf_0 6 rfl
theorem dX10_byteOf_13 : decode cX10_byteOf 13 = .ok (.getfield 150, 3) := dOf oX10_byteOf_0 7 rfl
theorem dX10_byteOf_16 : decode cX10_byteOf 16 = .ok (.if_icmp .ge 12, 3) := dOf oX10_byteOf_0 8 rfl
theorem dX10_byteOf_19 : decode cX10_byteOf 19 = .ok (.aload_n 0, 1) := dOf oX10_byteOf_0 9 rfl
theorem dX10_byteOf_20 : decode cX10_byteOf 20 = .ok (.getfield 31, 3) := dOf oX10_byteOf_0 10 rfl
theorem dX10_byteOf_23 : decode cX10_byteOf 23 = .ok (.iload_n 1, 1) := dOf oX10_byteOf_0 11 rfl
theorem dX10_byteOf_24 : decode cX10_byteOf 24 = .ok (.iaload, 1) := dOf oX10_byteOf_0 12 rfl
theorem dX10_byteOf_25 : decode cX10_byteOf 25 = .ok (.goto 4, 3) := dOf oX10_byteOf_0 13 rfl
theorem dX10_byteOf_28 : decode cX10_byteOf 28 = .ok (.iconst (-1), 1) := dOf oX10_byteOf_0 14 rfl
theorem dX10_byteOf_29 : decode cX10_byteOf 29 = .ok (.ireturn, 1) := dOf oX10_byteOf_0 15 rfl
def eX10_made_0 : List (Nat × Instr × Nat) := [(0, .aload_n 0, 1), (1, .iload_n 1, 1), (2, .invokevirtual 105, 3), (5, .ifCond .eq 20, 3), (8, .iload_n 2, 1), (9, .i2l, 1), (10, .lconst 0, 1), (11, .ldc2_w 156, 3), (14, .invokestatic 84, 3), (17, .ifCond .eq 8, 3), (20, .iload_n 3, 1), (21, .iconst (-1), 1), (22, .if_icmp .ge 5, 3), (25, .iconst (-1), 1), (26, .ireturn, 1), (27, .aload_n 0, 1), (28, .iconst 0, 1), (29, .putfield 150, 3), (32, .aload_n 0, 1), (33, .iload_n 1, 1), (34, .iload_n 2, 1), (35, .invokevirtual 158, 3), (38, .ifCond .eq 11, 3), (41, .aload_n 0, 1), (42, .iload_n 3, 1), (43, .invokevirtual 161, 3), (46, .goto 5, 3), (49, .bipush (-4), 2), (51, .ireturn, 1)]
theorem oX10_made_0 : okC cX10_made eX10_made_0 = true := by decide +kernel
theorem dX10_made_0 : decode cX10_made 0 = .ok (.aload_n 0, 1) := dOf oX10_made_0 0 rfl
theorem dX10_made_1 : decode cX10_made 1 = .ok (.iload_n 1, 1) := dOf oX10_made_0 1 rfl
theorem dX10_made_2 : decode cX10_made 2 = .ok (.invokevirtual 105, 3) := dOf oX10_made_0 2 rfl
theorem dX10_made_5 : decode cX10_made 5 = .ok (.ifCond .eq 20, 3) := dOf oX10_made_0 3 rfl
theorem dX10_made_8 : decode cX10_made 8 = .ok (.iload_n 2, 1) := dOf oX10_made_0 4 rfl
theorem dX10_made_9 : decode cX10_made 9 = .ok (.i2l, 1) := dOf oX10_made_0 5 rfl
theorem dX10_made_10 : decode cX10_made 10 = .ok (.lconst 0, 1) := dOf oX10_made_0 6 rfl
theorem dX10_made_11 : decode cX10_made 11 = .ok (.ldc2_w 156, 3) := dOf oX10_made_0 7 rfl
theorem dX10_made_14 : decode cX10_made 14 = .ok (.invokestatic 84, 3) := dOf oX10_made_0 8 rfl
theorem dX10_made_17 : decode cX10_made 17 = .ok (.ifCond .eq 8, 3) := dOf oX10_made_0 9 rfl
theorem dX10_made_20 : decode cX10_made 20 = .ok (.iload_n 3, 1) := dOf oX10_made_0 10 rfl
theorem dX10_made_21 : decode cX10_made 21 = .ok (.iconst (-1), 1) := dOf oX10_made_0 11 rfl
theorem dX10_made_22 : decode cX10_made 22 = .ok (.if_icmp .ge 5, 3) := dOf oX10_made_0 12 rfl
theorem dX10_made_25 : decode cX10_made 25 = .ok (.iconst (-1), 1) := dOf oX10_made_0 13 rfl
theorem dX10_made_26 : decode cX10_made 26 = .ok (.ireturn, 1) := dOf oX10_made_0 14 rfl
theorem dX10_made_27 : decode cX10_made 27 = .ok (.aload_n 0, 1) := dOf oX10_made_0 15 rfl
theorem dX10_made_28 : decode cX10_made 28 = .ok (.iconst 0, 1) := dOf oX10_made_0 16 rfl
theorem dX10_made_29 : decode cX10_made 29 = .ok (.putfield 150, 3) := dOf oX10_made_0 17 rfl
theorem dX10_made_32 : decode cX10_made 32 = .ok (.aload_n 0, 1) := dOf oX10_made_0 18 rfl
theorem dX10_made_33 : decode cX10_made 33 = .ok (.iload_n 1, 1) := dOf oX10_made_0 19 rfl
theorem dX10_made_34 : decode cX10_made 34 = .ok (.iload_n 2, 1) := dOf oX10_made_0 20 rfl
theorem dX10_made_35 : decode cX10_made 35 = .ok (.invokevirtual 158, 3) := dOf oX10_made_0 21 rfl
theorem dX10_made_38 : decode cX10_made 38 = .ok (.ifCond .eq 11, 3) := dOf oX10_made_0 22 rfl
theorem dX10_made_41 : decode cX10_made 41 = .ok (.aload_n 0, 1) := dOf oX10_made_0 23 rfl
theorem dX10_made_42 : decode cX10_made 42 = .ok (.iload_n 3, 1) := dOf oX10_made_0 24 rfl
theorem dX10_made_43 : decode cX10_made 43 = .ok (.invokevirtual 161, 3) := dOf oX10_made_0 25 rfl
theorem dX10_made_46 : decode cX10_made 46 = .ok (.goto 5, 3) := dOf oX10_made_0 26 rfl
theorem dX10_made_49 : decode cX10_made 49 = .ok (.bipush (-4), 2) := dOf oX10_made_0 27 rfl
theorem dX10_made_51 : decode cX10_made 51 = .ok (.ireturn, 1) := dOf oX10_made_0 28 rfl
def eX10_findShown_0 : List (Nat × Instr × Nat) := [(0, .aload_n 0, 1), (1, .iconst 0, 1), (2, .putfield 164, 3), (5, .iconst 0, 1), (6, .istore_n 2, 1), (7, .iload_n 2, 1), (8, .aload_n 0, 1), (9, .getfield 80, 3), (12, .if_icmp .ge 47, 3), (15, .aload_n 0, 1), (16, .getfield 16, 3), (19, .iload_n 2, 1), (20, .iaload, 1), (21, .iconst 1, 1), (22, .if_icmp .ne 31, 3), (25, .iload_n 1, 1), (26, .iload_n 2, 1), (27, .ishr, 1), (28, .iconst 1, 1), (29, .iand, 1), (30, .ifCond .ne 23, 3), (33, .aload_n 0, 1), (34, .getfield 34, 3), (37, .aload_n 0, 1), (38, .getfield 164, 3), (41, .iload_n 2, 1), (42, .iastore, 1), (43, .aload_n 0, 1), (44, .dup, 1), (45, .getfield 164, 3), (48, .iconst 1, 1), (49, .iadd, 1), (50, .putfield 164, 3), (53, .iinc 2 1, 3), (56, .goto (-49), 3), (59, .return_, 1)]
theorem oX10_findShown_0 : okC cX10_findShown eX10_findShown_0 = true := by decide +kernel
theorem dX10_findShown_0 : decode cX10_findShown 0 = .ok (.aload_n 0, 1) := dOf oX10_findShown_0 0 rfl
theorem dX10_findShown_1 : decode cX10_findShown 1 = .ok (.iconst 0, 1) := dOf oX10_findShown_0 1 rfl
theorem dX10_findShown_2 : decode cX10_findShown 2 = .ok (.putfield 164, 3) := dOf oX10_findShown_0 2 rfl
theorem dX10_findShown_5 : decode cX10_findShown 5 = .ok (.iconst 0, 1) := dOf oX10_findShown_0 3 rfl
theorem dX10_findShown_6 : decode cX10_findShown 6 = .ok (.istore_n 2, 1) := dOf oX10_findShown_0 4 rfl
theorem dX10_findShown_7 : decode cX10_findShown 7 = .ok (.iload_n 2, 1) := dOf oX10_findShown_0 5 rfl
theorem dX10_findShown_8 : decode cX10_findShown 8 = .ok (.aload_n 0, 1) := dOf oX10_findShown_0 6 rfl
theorem dX10_findShown_9 : decode cX10_findShown 9 = .ok (.getfield 80, 3) := dOf oX10_findShown_0 7 rfl
theorem dX10_findShown_12 : decode cX10_findShown 12 = .ok (.if_icmp .ge 47, 3) := dOf oX10_findShown_0 8 rfl
theorem dX10_findShown_15 : decode cX10_findShown 15 = .ok (.aload_n 0, 1) := dOf oX10_findShown_0 9 rfl
theorem dX10_findShown_16 : decode cX10_findShown 16 = .ok (.getfield 16, 3) := dOf oX10_findShown_0 10 rfl
theorem dX10_findShown_19 : decode cX10_findShown 19 = .ok (.iload_n 2, 1) := dOf oX10_findShown_0 11 rfl
theorem dX10_findShown_20 : decode cX10_findShown 20 = .ok (.iaload, 1) := dOf oX10_findShown_0 12 rfl
theorem dX10_findShown_21 : decode cX10_findShown 21 = .ok (.iconst 1, 1) := dOf oX10_findShown_0 13 rfl
theorem dX10_findShown_22 : decode cX10_findShown 22 = .ok (.if_icmp .ne 31, 3) := dOf oX10_findShown_0 14 rfl
theorem dX10_findShown_25 : decode cX10_findShown 25 = .ok (.iload_n 1, 1) := dOf oX10_findShown_0 15 rfl
theorem dX10_findShown_26 : decode cX10_findShown 26 = .ok (.iload_n 2, 1) := dOf oX10_findShown_0 16 rfl
theorem dX10_findShown_27 : decode cX10_findShown 27 = .ok (.ishr, 1) := dOf oX10_findShown_0 17 rfl
theorem dX10_findShown_28 : decode cX10_findShown 28 = .ok (.iconst 1, 1) := dOf oX10_findShown_0 18 rfl
theorem dX10_findShown_29 : decode cX10_findShown 29 = .ok (.iand, 1) := dOf oX10_findShown_0 19 rfl
theorem dX10_findShown_30 : decode cX10_findShown 30 = .ok (.ifCond .ne 23, 3) := dOf oX10_findShown_0 20 rfl
theorem dX10_findShown_33 : decode cX10_findShown 33 = .ok (.aload_n 0, 1) := dOf oX10_findShown_0 21 rfl
theorem dX10_findShown_34 : decode cX10_findShown 34 = .ok (.getfield 34, 3) := dOf oX10_findShown_0 22 rfl
theorem dX10_findShown_37 : decode cX10_findShown 37 = .ok (.aload_n 0, 1) := dOf oX10_findShown_0 23 rfl
theorem dX10_findShown_38 : decode cX10_findShown 38 = .ok (.getfield 164, 3) := dOf oX10_findShown_0 24 rfl
theorem dX10_findShown_41 : decode cX10_findShown 41 = .ok (.iload_n 2, 1) := dOf oX10_findShown_0 25 rfl
theorem dX10_findShown_42 : decode cX10_findShown 42 = .ok (.iastore, 1) := dOf oX10_findShown_0 26 rfl
theorem dX10_findShown_43 : decode cX10_findShown 43 = .ok (.aload_n 0, 1) := dOf oX10_findShown_0 27 rfl
theorem dX10_findShown_44 : decode cX10_findShown 44 = .ok (.dup, 1) := dOf oX10_findShown_0 28 rfl
theorem dX10_findShown_45 : decode cX10_findShown 45 = .ok (.getfield 164, 3) := dOf oX10_findShown_0 29 rfl
theorem dX10_findShown_48 : decode cX10_findShown 48 = .ok (.iconst 1, 1) := dOf oX10_findShown_0 30 rfl
theorem dX10_findShown_49 : decode cX10_findShown 49 = .ok (.iadd, 1) := dOf oX10_findShown_0 31 rfl
theorem dX10_findShown_50 : decode cX10_findShown 50 = .ok (.putfield 164, 3) := dOf oX10_findShown_0 32 rfl
theorem dX10_findShown_53 : decode cX10_findShown 53 = .ok (.iinc 2 1, 3) := dOf oX10_findShown_0 33 rfl
theorem dX10_findShown_56 : decode cX10_findShown 56 = .ok (.goto (-49), 3) := dOf oX10_findShown_0 34 rfl
theorem dX10_findShown_59 : decode cX10_findShown 59 = .ok (.return_, 1) := dOf oX10_findShown_0 35 rfl
def eX10_countOf_0 : List (Nat × Instr × Nat) := [(0, .iconst 0, 1), (1, .istore_n 2, 1), (2, .iconst 0, 1), (3, .istore_n 3, 1), (4, .iload_n 3, 1), (5, .aload_n 0, 1), (6, .getfield 80, 3), (9, .if_icmp .ge 27, 3), (12, .iload_n 2, 1), (13, .aload_n 0, 1), (14, .getfield 16, 3), (17, .iload_n 3, 1), (18, .iaload, 1), (19, .iload_n 1, 1), (20, .if_icmp .ne 7, 3), (23, .iconst 1, 1), (24, .goto 4, 3), (27, .iconst 0, 1), (28, .iadd, 1), (29, .istore_n 2, 1), (30, .iinc 3 1, 3), (33, .goto (-29), 3), (36, .iload_n 2, 1), (37, .ireturn, 1)]
theorem oX10_countOf_0 : okC cX10_countOf eX10_countOf_0 = true := by decide +kernel
theorem dX10_countOf_0 : decode cX10_countOf 0 = .ok (.iconst 0, 1) := dOf oX10_countOf_0 0 rfl
theorem dX10_countOf_1 : decode cX10_countOf 1 = .ok (.istore_n 2, 1) := dOf oX10_countOf_0 1 rfl
theorem dX10_countOf_2 : decode cX10_countOf 2 = .ok (.iconst 0, 1) := dOf oX10_countOf_0 2 rfl
theorem dX10_countOf_3 : decode cX10_countOf 3 = .ok (.istore_n 3, 1) := dOf oX10_countOf_0 3 rfl
theorem dX10_countOf_4 : decode cX10_countOf 4 = .ok (.iload_n 3, 1) := dOf oX10_countOf_0 4 rfl
theorem dX10_countOf_5 : decode cX10_countOf 5 = .ok (.aload_n 0, 1) := dOf oX10_countOf_0 5 rfl
theorem dX10_countOf_6 : decode cX10_countOf 6 = .ok (.getfield 80, 3) := dOf oX10_countOf_0 6 rfl
theorem dX10_countOf_9 : decode cX10_countOf 9 = .ok (.if_icmp .ge 27, 3) := dOf oX10_countOf_0 7 rfl
theorem dX10_countOf_12 : decode cX10_countOf 12 = .ok (.iload_n 2, 1) := dOf oX10_countOf_0 8 rfl
theorem dX10_countOf_13 : decode cX10_countOf 13 = .ok (.aload_n 0, 1) := dOf oX10_countOf_0 9 rfl
theorem dX10_countOf_14 : decode cX10_countOf 14 = .ok (.getfield 16, 3) := dOf oX10_countOf_0 10 rfl
theorem dX10_countOf_17 : decode cX10_countOf 17 = .ok (.iload_n 3, 1) := dOf oX10_countOf_0 11 rfl
theorem dX10_countOf_18 : decode cX10_countOf 18 = .ok (.iaload, 1) := dOf oX10_countOf_0 12 rfl
theorem dX10_countOf_19 : decode cX10_countOf 19 = .ok (.iload_n 1, 1) := dOf oX10_countOf_0 13 rfl
theorem dX10_countOf_20 : decode cX10_countOf 20 = .ok (.if_icmp .ne 7, 3) := dOf oX10_countOf_0 14 rfl
theorem dX10_countOf_23 : decode cX10_countOf 23 = .ok (.iconst 1, 1) := dOf oX10_countOf_0 15 rfl
theorem dX10_countOf_24 : decode cX10_countOf 24 = .ok (.goto 4, 3) := dOf oX10_countOf_0 16 rfl
theorem dX10_countOf_27 : decode cX10_countOf 27 = .ok (.iconst 0, 1) := dOf oX10_countOf_0 17 rfl
theorem dX10_countOf_28 : decode cX10_countOf 28 = .ok (.iadd, 1) := dOf oX10_countOf_0 18 rfl
theorem dX10_countOf_29 : decode cX10_countOf 29 = .ok (.istore_n 2, 1) := dOf oX10_countOf_0 19 rfl
theorem dX10_countOf_30 : decode cX10_countOf 30 = .ok (.iinc 3 1, 3) := dOf oX10_countOf_0 20 rfl
theorem dX10_countOf_33 : decode cX10_countOf 33 = .ok (.goto (-29), 3) := dOf oX10_countOf_0 21 rfl
theorem dX10_countOf_36 : decode cX10_countOf 36 = .ok (.iload_n 2, 1) := dOf oX10_countOf_0 22 rfl
theorem dX10_countOf_37 : decode cX10_countOf 37 = .ok (.ireturn, 1) := dOf oX10_countOf_0 23 rfl
def eX10_show_0 : List (Nat × Instr × Nat) := [(0, .aload_n 0, 1), (1, .iload_n 1, 1), (2, .invokevirtual 105, 3), (5, .ifCond .ne 5, 3), (8, .iconst (-1), 1), (9, .ireturn, 1), (10, .aload_n 0, 1), (11, .getfield 96, 3), (14, .istore_n 2, 1), (15, .aload_n 0, 1), (16, .iconst 0, 1), (17, .putfield 96, 3), (20, .iload_n 2, 1), (21, .i2l, 1), (22, .lconst 1, 1), (23, .ldc2_w 167, 3), (26, .invokestatic 84, 3), (29, .ifCond .ne 6, 3), (32, .bipush (-2), 2), (34, .ireturn, 1), (35, .aload_n 0, 1), (36, .iconst 1, 1), (37, .invokevirtual 169, 3), (40, .aload_n 0, 1), (41, .getfield 16, 3), (44, .iload_n 1, 1), (45, .iaload, 1), (46, .iconst 1, 1), (47, .if_icmp .ne 7, 3), (50, .iconst 1, 1), (51, .goto 4, 3), (54, .iconst 0, 1), (55, .isub, 1), (56, .iconst 4, 1), (57, .if_icmp .ne 6, 3), (60, .bipush (-3), 2), (62, .ireturn, 1), (63, .iconst 0, 1), (64, .istore_n 3, 1), (65, .iload_n 3, 1), (66, .iload_n 2, 1), (67, .if_icmp .ge 26, 3), (70, .aload_n 0, 1), (71, .getfield 19, 3), (74, .bipush 36, 2), (76, .iload_n 1, 1), (77, .imul, 1), (78, .iload_n 3, 1), (79, .iadd, 1), (80, .aload_n 0, 1), (81, .getfield 28, 3), (84, .iload_n 3, 1), (85, .iaload, 1), (86, .iastore, 1), (87, .iinc 3 1, 3), (90, .goto (-25), 3), (93, .aload_n 0, 1), (94, .getfield 22, 3), (97, .iload_n 1, 1), (98, .iload_n 2, 1)]
theorem oX10_show_0 : okC cX10_show eX10_show_0 = true := by decide +kernel
theorem dX10_show_0 : decode cX10_show 0 = .ok (.aload_n 0, 1) := dOf oX10_show_0 0 rfl
theorem dX10_show_1 : decode cX10_show 1 = .ok (.iload_n 1, 1) := dOf oX10_show_0 1 rfl
theorem dX10_show_2 : decode cX10_show 2 = .ok (.invokevirtual 105, 3) := dOf oX10_show_0 2 rfl
theorem dX10_show_5 : decode cX10_show 5 = .ok (.ifCond .ne 5, 3) := dOf oX10_show_0 3 rfl
theorem dX10_show_8 : decode cX10_show 8 = .ok (.iconst (-1), 1) := dOf oX10_show_0 4 rfl
theorem dX10_show_9 : decode cX10_show 9 = .ok (.ireturn, 1) := dOf oX10_show_0 5 rfl
theorem dX10_show_10 : decode cX10_show 10 = .ok (.aload_n 0, 1) := dOf oX10_show_0 6 rfl
theorem dX10_show_11 : decode cX10_show 11 = .ok (.getfield 96, 3) := dOf oX10_show_0 7 rfl
theorem dX10_show_14 : decode cX10_show 14 = .ok (.istore_n 2, 1) := dOf oX10_show_0 8 rfl
theorem dX10_show_15 : decode cX10_show 15 = .ok (.aload_n 0, 1) := dOf oX10_show_0 9 rfl
theorem dX10_show_16 : decode cX10_show 16 = .ok (.iconst 0, 1) := dOf oX10_show_0 10 rfl
theorem dX10_show_17 : decode cX10_show 17 = .ok (.putfield 96, 3) := dOf oX10_show_0 11 rfl
theorem dX10_show_20 : decode cX10_show 20 = .ok (.iload_n 2, 1) := dOf oX10_show_0 12 rfl
theorem dX10_show_21 : decode cX10_show 21 = .ok (.i2l, 1) := dOf oX10_show_0 13 rfl
theorem dX10_show_22 : decode cX10_show 22 = .ok (.lconst 1, 1) := dOf oX10_show_0 14 rfl
theorem dX10_show_23 : decode cX10_show 23 = .ok (.ldc2_w 167, 3) := dOf oX10_show_0 15 rfl
theorem dX10_show_26 : decode cX10_show 26 = .ok (.invokestatic 84, 3) := dOf oX10_show_0 16 rfl
theorem dX10_show_29 : decode cX10_show 29 = .ok (.ifCond .ne 6, 3) := dOf oX10_show_0 17 rfl
theorem dX10_show_32 : decode cX10_show 32 = .ok (.bipush (-2), 2) := dOf oX10_show_0 18 rfl
theorem dX10_show_34 : decode cX10_show 34 = .ok (.ireturn, 1) := dOf oX10_show_0 19 rfl
theorem dX10_show_35 : decode cX10_show 35 = .ok (.aload_n 0, 1) := dOf oX10_show_0 20 rfl
theorem dX10_show_36 : decode cX10_show 36 = .ok (.iconst 1, 1) := dOf oX10_show_0 21 rfl
theorem dX10_show_37 : decode cX10_show 37 = .ok (.invokevirtual 169, 3) := dOf oX10_show_0 22 rfl
theorem dX10_show_40 : decode cX10_show 40 = .ok (.aload_n 0, 1) := dOf oX10_show_0 23 rfl
theorem dX10_show_41 : decode cX10_show 41 = .ok (.getfield 16, 3) := dOf oX10_show_0 24 rfl
theorem dX10_show_44 : decode cX10_show 44 = .ok (.iload_n 1, 1) := dOf oX10_show_0 25 rfl
theorem dX10_show_45 : decode cX10_show 45 = .ok (.iaload, 1) := dOf oX10_show_0 26 rfl
theorem dX10_show_46 : decode cX10_show 46 = .ok (.iconst 1, 1) := dOf oX10_show_0 27 rfl
theorem dX10_show_47 : decode cX10_show 47 = .ok (.if_icmp .ne 7, 3) := dOf oX10_show_0 28 rfl
theorem dX10_show_50 : decode cX10_show 50 = .ok (.iconst 1, 1) := dOf oX10_show_0 29 rfl
theorem dX10_show_51 : decode cX10_show 51 = .ok (.goto 4, 3) := dOf oX10_show_0 30 rfl
theorem dX10_show_54 : decode cX10_show 54 = .ok (.iconst 0, 1) := dOf oX10_show_0 31 rfl
theorem dX10_show_55 : decode cX10_show 55 = .ok (.isub, 1) := dOf oX10_show_0 32 rfl
theorem dX10_show_56 : decode cX10_show 56 = .ok (.iconst 4, 1) := dOf oX10_show_0 33 rfl
theorem dX10_show_57 : decode cX10_show 57 = .ok (.if_icmp .ne 6, 3) := dOf oX10_show_0 34 rfl
theorem dX10_show_60 : decode cX10_show 60 = .ok (.bipush (-3), 2) := dOf oX10_show_0 35 rfl
theorem dX10_show_62 : decode cX10_show 62 = .ok (.ireturn, 1) := dOf oX10_show_0 36 rfl
theorem dX10_show_63 : decode cX10_show 63 = .ok (.iconst 0, 1) := dOf oX10_show_0 37 rfl
theorem dX10_show_64 : decode cX10_show 64 = .ok (.istore_n 3, 1) := dOf oX10_show_0 38 rfl
theorem dX10_show_65 : decode cX10_show 65 = .ok (.iload_n 3, 1) := dOf oX10_show_0 39 rfl
theorem dX10_show_66 : decode cX10_show 66 = .ok (.iload_n 2, 1) := dOf oX10_show_0 40 rfl
theorem dX10_show_67 : decode cX10_show 67 = .ok (.if_icmp .ge 26, 3) := dOf oX10_show_0 41 rfl
theorem dX10_show_70 : decode cX10_show 70 = .ok (.aload_n 0, 1) := dOf oX10_show_0 42 rfl
theorem dX10_show_71 : decode cX10_show 71 = .ok (.getfield 19, 3) := dOf oX10_show_0 43 rfl
theorem dX10_show_74 : decode cX10_show 74 = .ok (.bipush 36, 2) := dOf oX10_show_0 44 rfl
theorem dX10_show_76 : decode cX10_show 76 = .ok (.iload_n 1, 1) := dOf oX10_show_0 45 rfl
theorem dX10_show_77 : decode cX10_show 77 = .ok (.imul, 1) := dOf oX10_show_0 46 rfl
theorem dX10_show_78 : decode cX10_show 78 = .ok (.iload_n 3, 1) := dOf oX10_show_0 47 rfl
theorem dX10_show_79 : decode cX10_show 79 = .ok (.iadd, 1) := dOf oX10_show_0 48 rfl
theorem dX10_show_80 : decode cX10_show 80 = .ok (.aload_n 0, 1) := dOf oX10_show_0 49 rfl
theorem dX10_show_81 : decode cX10_show 81 = .ok (.getfield 28, 3) := dOf oX10_show_0 50 rfl
theorem dX10_show_84 : decode cX10_show 84 = .ok (.iload_n 3, 1) := dOf oX10_show_0 51 rfl
theorem dX10_show_85 : decode cX10_show 85 = .ok (.iaload, 1) := dOf oX10_show_0 52 rfl
theorem dX10_show_86 : decode cX10_show 86 = .ok (.iastore, 1) := dOf oX10_show_0 53 rfl
theorem dX10_show_87 : decode cX10_show 87 = .ok (.iinc 3 1, 3) := dOf oX10_show_0 54 rfl
theorem dX10_show_90 : decode cX10_show 90 = .ok (.goto (-25), 3) := dOf oX10_show_0 55 rfl
theorem dX10_show_93 : decode cX10_show 93 = .ok (.aload_n 0, 1) := dOf oX10_show_0 56 rfl
theorem dX10_show_94 : decode cX10_show 94 = .ok (.getfield 22, 3) := dOf oX10_show_0 57 rfl
theorem dX10_show_97 : decode cX10_show 97 = .ok (.iload_n 1, 1) := dOf oX10_show_0 58 rfl
theorem dX10_show_98 : decode cX10_show 98 = .ok (.iload_n 2, 1) := dOf oX10_show_0 59 rfl
def eX10_show_1 : List (Nat × Instr × Nat) := [(99, .iastore, 1), (100, .aload_n 0, 1), (101, .getfield 16, 3), (104, .iload_n 1, 1), (105, .iconst 1, 1), (106, .iastore, 1), (107, .aload_n 0, 1), (108, .getfield 25, 3), (111, .iload_n 1, 1), (112, .iconst 0, 1), (113, .iastore, 1), (114, .aload_n 0, 1), (115, .iconst 1, 1), (116, .invokevirtual 169, 3), (119, .ireturn, 1)]
theorem oX10_show_1 : okC cX10_show eX10_show_1 = true := by decide +kernel
theorem dX10_show_99 : decode cX10_show 99 = .ok (.iastore, 1) := dOf oX10_show_1 0 rfl
theorem dX10_show_100 : decode cX10_show 100 = .ok (.aload_n 0, 1) := dOf oX10_show_1 1 rfl
theorem dX10_show_101 : decode cX10_show 101 = .ok (.getfield 16, 3) := dOf oX10_show_1 2 rfl
theorem dX10_show_104 : decode cX10_show 104 = .ok (.iload_n 1, 1) := dOf oX10_show_1 3 rfl
theorem dX10_show_105 : decode cX10_show 105 = .ok (.iconst 1, 1) := dOf oX10_show_1 4 rfl
theorem dX10_show_106 : decode cX10_show 106 = .ok (.iastore, 1) := dOf oX10_show_1 5 rfl
theorem dX10_show_107 : decode cX10_show 107 = .ok (.aload_n 0, 1) := dOf oX10_show_1 6 rfl
theorem dX10_show_108 : decode cX10_show 108 = .ok (.getfield 25, 3) := dOf oX10_show_1 7 rfl
theorem dX10_show_111 : decode cX10_show 111 = .ok (.iload_n 1, 1) := dOf oX10_show_1 8 rfl
theorem dX10_show_112 : decode cX10_show 112 = .ok (.iconst 0, 1) := dOf oX10_show_1 9 rfl
theorem dX10_show_113 : decode cX10_show 113 = .ok (.iastore, 1) := dOf oX10_show_1 10 rfl
theorem dX10_show_114 : decode cX10_show 114 = .ok (.aload_n 0, 1) := dOf oX10_show_1 11 rfl
theorem dX10_show_115 : decode cX10_show 115 = .ok (.iconst 1, 1) := dOf oX10_show_1 12 rfl
theorem dX10_show_116 : decode cX10_show 116 = .ok (.invokevirtual 169, 3) := dOf oX10_show_1 13 rfl
theorem dX10_show_119 : decode cX10_show 119 = .ok (.ireturn, 1) := dOf oX10_show_1 14 rfl
def eX10_forget_0 : List (Nat × Instr × Nat) := [(0, .aload_n 0, 1), (1, .iload_n 1, 1), (2, .invokevirtual 105, 3), (5, .ifCond .ne 5, 3), (8, .iconst (-1), 1), (9, .ireturn, 1), (10, .aload_n 0, 1), (11, .getfield 16, 3), (14, .iload_n 1, 1), (15, .iaload, 1), (16, .iconst 1, 1), (17, .if_icmp .eq 6, 3), (20, .bipush (-2), 2), (22, .ireturn, 1), (23, .aload_n 0, 1), (24, .getfield 16, 3), (27, .iload_n 1, 1), (28, .iconst 0, 1), (29, .iastore, 1), (30, .aload_n 0, 1), (31, .iconst 1, 1), (32, .invokevirtual 169, 3), (35, .ireturn, 1)]
theorem oX10_forget_0 : okC cX10_forget eX10_forget_0 = true := by decide +kernel
theorem dX10_forget_0 : decode cX10_forget 0 = .ok (.aload_n 0, 1) := dOf oX10_forget_0 0 rfl
theorem dX10_forget_1 : decode cX10_forget 1 = .ok (.iload_n 1, 1) := dOf oX10_forget_0 1 rfl
theorem dX10_forget_2 : decode cX10_forget 2 = .ok (.invokevirtual 105, 3) := dOf oX10_forget_0 2 rfl
theorem dX10_forget_5 : decode cX10_forget 5 = .ok (.ifCond .ne 5, 3) := dOf oX10_forget_0 3 rfl
theorem dX10_forget_8 : decode cX10_forget 8 = .ok (.iconst (-1), 1) := dOf oX10_forget_0 4 rfl
theorem dX10_forget_9 : decode cX10_forget 9 = .ok (.ireturn, 1) := dOf oX10_forget_0 5 rfl
theorem dX10_forget_10 : decode cX10_forget 10 = .ok (.aload_n 0, 1) := dOf oX10_forget_0 6 rfl
theorem dX10_forget_11 : decode cX10_forget 11 = .ok (.getfield 16, 3) := dOf oX10_forget_0 7 rfl
theorem dX10_forget_14 : decode cX10_forget 14 = .ok (.iload_n 1, 1) := dOf oX10_forget_0 8 rfl
theorem dX10_forget_15 : decode cX10_forget 15 = .ok (.iaload, 1) := dOf oX10_forget_0 9 rfl
theorem dX10_forget_16 : decode cX10_forget 16 = .ok (.iconst 1, 1) := dOf oX10_forget_0 10 rfl
theorem dX10_forget_17 : decode cX10_forget 17 = .ok (.if_icmp .eq 6, 3) := dOf oX10_forget_0 11 rfl
theorem dX10_forget_20 : decode cX10_forget 20 = .ok (.bipush (-2), 2) := dOf oX10_forget_0 12 rfl
theorem dX10_forget_22 : decode cX10_forget 22 = .ok (.ireturn, 1) := dOf oX10_forget_0 13 rfl
theorem dX10_forget_23 : decode cX10_forget 23 = .ok (.aload_n 0, 1) := dOf oX10_forget_0 14 rfl
theorem dX10_forget_24 : decode cX10_forget 24 = .ok (.getfield 16, 3) := dOf oX10_forget_0 15 rfl
theorem dX10_forget_27 : decode cX10_forget 27 = .ok (.iload_n 1, 1) := dOf oX10_forget_0 16 rfl
theorem dX10_forget_28 : decode cX10_forget 28 = .ok (.iconst 0, 1) := dOf oX10_forget_0 17 rfl
theorem dX10_forget_29 : decode cX10_forget 29 = .ok (.iastore, 1) := dOf oX10_forget_0 18 rfl
theorem dX10_forget_30 : decode cX10_forget 30 = .ok (.aload_n 0, 1) := dOf oX10_forget_0 19 rfl
theorem dX10_forget_31 : decode cX10_forget 31 = .ok (.iconst 1, 1) := dOf oX10_forget_0 20 rfl
theorem dX10_forget_32 : decode cX10_forget 32 = .ok (.invokevirtual 169, 3) := dOf oX10_forget_0 21 rfl
theorem dX10_forget_35 : decode cX10_forget 35 = .ok (.ireturn, 1) := dOf oX10_forget_0 22 rfl
def eX10_costOf_0 : List (Nat × Instr × Nat) := [(0, .iload_n 0, 1), (1, .ldc 149, 2), (3, .if_icmp .lt 12, 3), (6, .iconst 2, 1), (7, .iload_n 0, 1), (8, .ldc 149, 2), (10, .idiv, 1), (11, .iadd, 1), (12, .goto 14, 3), (15, .iload_n 0, 1), (16, .iconst 3, 1), (17, .irem, 1), (18, .ifCond .ne 7, 3), (21, .iconst 4, 1), (22, .goto 4, 3), (25, .iconst 5, 1), (26, .ireturn, 1)]
theorem oX10_costOf_0 : okC cX10_costOf eX10_costOf_0 = true := by decide +kernel
theorem dX10_costOf_0 : decode cX10_costOf 0 = .ok (.iload_n 0, 1) := dOf oX10_costOf_0 0 rfl
theorem dX10_costOf_1 : decode cX10_costOf 1 = .ok (.ldc 149, 2) := dOf oX10_costOf_0 1 rfl
theorem dX10_costOf_3 : decode cX10_costOf 3 = .ok (.if_icmp .lt 12, 3) := dOf oX10_costOf_0 2 rfl
theorem dX10_costOf_6 : decode cX10_costOf 6 = .ok (.iconst 2, 1) := dOf oX10_costOf_0 3 rfl
theorem dX10_costOf_7 : decode cX10_costOf 7 = .ok (.iload_n 0, 1) := dOf oX10_costOf_0 4 rfl
theorem dX10_costOf_8 : decode cX10_costOf 8 = .ok (.ldc 149, 2) := dOf oX10_costOf_0 5 rfl
theorem dX10_costOf_10 : decode cX10_costOf 10 = .ok (.idiv, 1) := dOf oX10_costOf_0 6 rfl
theorem dX10_costOf_11 : decode cX10_costOf 11 = .ok (.iadd, 1) := dOf oX10_costOf_0 7 rfl
theorem dX10_costOf_12 : decode cX10_costOf 12 = .ok (.goto 14, 3) := dOf oX10_costOf_0 8 rfl
theorem dX10_costOf_15 : decode cX10_costOf 15 = .ok (.iload_n 0, 1) := dOf oX10_costOf_0 9 rfl
theorem dX10_costOf_16 : decode cX10_costOf 16 = .ok (.iconst 3, 1) := dOf oX10_costOf_0 10 rfl
theorem dX10_costOf_17 : decode cX10_costOf 17 = .ok (.irem, 1) := dOf oX10_costOf_0 11 rfl
theorem dX10_costOf_18 : decode cX10_costOf 18 = .ok (.ifCond .ne 7, 3) := dOf oX10_costOf_0 12 rfl
theorem dX10_costOf_21 : decode cX10_costOf 21 = .ok (.iconst 4, 1) := dOf oX10_costOf_0 13 rfl
theorem dX10_costOf_22 : decode cX10_costOf 22 = .ok (.goto 4, 3) := dOf oX10_costOf_0 14 rfl
theorem dX10_costOf_25 : decode cX10_costOf 25 = .ok (.iconst 5, 1) := dOf oX10_costOf_0 15 rfl
theorem dX10_costOf_26 : decode cX10_costOf 26 = .ok (.ireturn, 1) := dOf oX10_costOf_0 16 rfl
def eX10_standsAt_0 : List (Nat × Instr × Nat) := [(0, .iload_n 2, 1), (1, .ifCond .lt 22, 3), (4, .iload_n 2, 1), (5, .aload_n 0, 1), (6, .getfield 150, 3), (9, .iadd, 1), (10, .aload_n 0, 1), (11, .getfield 22, 3), (14, .iload_n 1, 1), (15, .iaload, 1), (16, .if_icmp .gt 7, 3), (19, .iconst 1, 1), (20, .goto 4, 3), (23, .iconst 0, 1), (24, .istore_n 3, 1), (25, .iconst 0, 1), (26, .istore 4, 2), (28, .iload 4, 2), (30, .aload_n 0, 1), (31, .getfield 150, 3), (34, .if_icmp .ge 43, 3), (37, .iload_n 3, 1), (38, .ifCond .eq 39, 3), (41, .aload_n 0, 1), (42, .getfield 31, 3), (45, .iload 4, 2), (47, .iaload, 1), (48, .aload_n 0, 1), (49, .getfield 19, 3), (52, .bipush 36, 2), (54, .iload_n 1, 1), (55, .imul, 1), (56, .iload_n 2, 1), (57, .iadd, 1), (58, .iload 4, 2), (60, .iadd, 1), (61, .iaload, 1), (62, .if_icmp .ne 7, 3), (65, .iconst 1, 1), (66, .goto 4, 3), (69, .iconst 0, 1), (70, .istore_n 3, 1), (71, .iinc 4 1, 3), (74, .goto (-46), 3), (77, .iload_n 3, 1), (78, .ireturn, 1)]
theorem oX10_standsAt_0 : okC cX10_standsAt eX10_standsAt_0 = true := by decide +kernel
theorem dX10_standsAt_0 : decode cX10_standsAt 0 = .ok (.iload_n 2, 1) := dOf oX10_standsAt_0 0 rfl
theorem dX10_standsAt_1 : decode cX10_standsAt 1 = .ok (.ifCond .lt 22, 3) := dOf oX10_standsAt_0 1 rfl
theorem dX10_standsAt_4 : decode cX10_standsAt 4 = .ok (.iload_n 2, 1) := dOf oX10_standsAt_0 2 rfl
theorem dX10_standsAt_5 : decode cX10_standsAt 5 = .ok (.aload_n 0, 1) := dOf oX10_standsAt_0 3 rfl
theorem dX10_standsAt_6 : decode cX10_standsAt 6 = .ok (.getfield 150, 3) := dOf oX10_standsAt_0 4 rfl
theorem dX10_standsAt_9 : decode cX10_standsAt 9 = .ok (.iadd, 1) := dOf oX10_standsAt_0 5 rfl
theorem dX10_standsAt_10 : decode cX10_standsAt 10 = .ok (.aload_n 0, 1) := dOf oX10_standsAt_0 6 rfl
theorem dX10_standsAt_11 : decode cX10_standsAt 11 = .ok (.getfield 22, 3) := dOf oX10_standsAt_0 7 rfl
theorem dX10_standsAt_14 : decode cX10_standsAt 14 = .ok (.iload_n 1, 1) := dOf oX10_standsAt_0 8 rfl
theorem dX10_standsAt_15 : decode cX10_standsAt 15 = .ok (.iaload, 1) := dOf oX10_standsAt_0 9 rfl
theorem dX10_standsAt_16 : decode cX10_standsAt 16 = .ok (.if_icmp .gt 7, 3) := dOf oX10_standsAt_0 10 rfl
theorem dX10_standsAt_19 : decode cX10_standsAt 19 = .ok (.iconst 1, 1) := dOf oX10_standsAt_0 11 rfl
theorem dX10_standsAt_20 : decode cX10_standsAt 20 = .ok (.goto 4, 3) := dOf oX10_standsAt_0 12 rfl
theorem dX10_standsAt_23 : decode cX10_standsAt 23 = .ok (.iconst 0, 1) := dOf oX10_standsAt_0 13 rfl
theorem dX10_standsAt_24 : decode cX10_standsAt 24 = .ok (.istore_n 3, 1) := dOf oX10_standsAt_0 14 rfl
theorem dX10_standsAt_25 : decode cX10_standsAt 25 = .ok (.iconst 0, 1) := dOf oX10_standsAt_0 15 rfl
theorem dX10_standsAt_26 : decode cX10_standsAt 26 = .ok (.istore 4, 2) := dOf oX10_standsAt_0 16 rfl
theorem dX10_standsAt_28 : decode cX10_standsAt 28 = .ok (.iload 4, 2) := dOf oX10_standsAt_0 17 rfl
theorem dX10_standsAt_30 : decode cX10_standsAt 30 = .ok (.aload_n 0, 1) := dOf oX10_standsAt_0 18 rfl
theorem dX10_standsAt_31 : decode cX10_standsAt 31 = .ok (.getfield 150, 3) := dOf oX10_standsAt_0 19 rfl
theorem dX10_standsAt_34 : decode cX10_standsAt 34 = .ok (.if_icmp .ge 43, 3) := dOf oX10_standsAt_0 20 rfl
theorem dX10_standsAt_37 : decode cX10_standsAt 37 = .ok (.iload_n 3, 1) := dOf oX10_standsAt_0 21 rfl
theorem dX10_standsAt_38 : decode cX10_standsAt 38 = .ok (.ifCond .eq 39, 3) := dOf oX10_standsAt_0 22 rfl
theorem dX10_standsAt_41 : decode cX10_standsAt 41 = .ok (.aload_n 0, 1) := dOf oX10_standsAt_0 23 rfl
theorem dX10_standsAt_42 : decode cX10_standsAt 42 = .ok (.getfield 31, 3) := dOf oX10_standsAt_0 24 rfl
theorem dX10_standsAt_45 : decode cX10_standsAt 45 = .ok (.iload 4, 2) := dOf oX10_standsAt_0 25 rfl
theorem dX10_standsAt_47 : decode cX10_standsAt 47 = .ok (.iaload, 1) := dOf oX10_standsAt_0 26 rfl
theorem dX10_standsAt_48 : decode cX10_standsAt 48 = .ok (.aload_n 0, 1) := dOf oX10_standsAt_0 27 rfl
theorem dX10_standsAt_49 : decode cX10_standsAt 49 = .ok (.getfield 19, 3) := dOf oX10_standsAt_0 28 rfl
theorem dX10_standsAt_52 : decode cX10_standsAt 52 = .ok (.bipush 36, 2) := dOf oX10_standsAt_0 29 rfl
theorem dX10_standsAt_54 : decode cX10_standsAt 54 = .ok (.iload_n 1, 1) := dOf oX10_standsAt_0 30 rfl
theorem dX10_standsAt_55 : decode cX10_standsAt 55 = .ok (.imul, 1) := dOf oX10_standsAt_0 31 rfl
theorem dX10_standsAt_56 : decode cX10_standsAt 56 = .ok (.iload_n 2, 1) := dOf oX10_standsAt_0 32 rfl
theorem dX10_standsAt_57 : decode cX10_standsAt 57 = .ok (.iadd, 1) := dOf oX10_standsAt_0 33 rfl
theorem dX10_standsAt_58 : decode cX10_standsAt 58 = .ok (.iload 4, 2) := dOf oX10_standsAt_0 34 rfl
theorem dX10_standsAt_60 : decode cX10_standsAt 60 = .ok (.iadd, 1) := dOf oX10_standsAt_0 35 rfl
theorem dX10_standsAt_61 : decode cX10_standsAt 61 = .ok (.iaload, 1) := dOf oX10_standsAt_0 36 rfl
theorem dX10_standsAt_62 : decode cX10_standsAt 62 = .ok (.if_icmp .ne 7, 3) := dOf oX10_standsAt_0 37 rfl
theorem dX10_standsAt_65 : decode cX10_standsAt 65 = .ok (.iconst 1, 1) := dOf oX10_standsAt_0 38 rfl
theorem dX10_standsAt_66 : decode cX10_standsAt 66 = .ok (.goto 4, 3) := dOf oX10_standsAt_0 39 rfl
theorem dX10_standsAt_69 : decode cX10_standsAt 69 = .ok (.iconst 0, 1) := dOf oX10_standsAt_0 40 rfl
theorem dX10_standsAt_70 : decode cX10_standsAt 70 = .ok (.istore_n 3, 1) := dOf oX10_standsAt_0 41 rfl
theorem dX10_standsAt_71 : decode cX10_standsAt 71 = .ok (.iinc 4 1, 3) := dOf oX10_standsAt_0 42 rfl
theorem dX10_standsAt_74 : decode cX10_standsAt 74 = .ok (.goto (-46), 3) := dOf oX10_standsAt_0 43 rfl
theorem dX10_standsAt_77 : decode cX10_standsAt 77 = .ok (.iload_n 3, 1) := dOf oX10_standsAt_0 44 rfl
theorem dX10_standsAt_78 : decode cX10_standsAt 78 = .ok (.ireturn, 1) := dOf oX10_standsAt_0 45 rfl
def eX10_longOf_0 : List (Nat × Instr × Nat) := [(0, .iconst 0, 1), (1, .istore_n 3, 1), (2, .iconst 0, 1), (3, .istore 4, 2), (5, .iload 4, 2), (7, .aload_n 0, 1), (8, .getfield 164, 3), (11, .if_icmp .ge 87, 3), (14, .aload_n 0, 1), (15, .iconst 0, 1), (16, .putfield 150, 3), (19, .aload_n 0, 1), (20, .aload_n 0, 1), (21, .getfield 34, 3), (24, .iload 4, 2), (26, .iaload, 1), (27, .iload_n 1, 1), (28, .invokevirtual 158, 3), (31, .istore 5, 2), (33, .iload 5, 2), (35, .ifCond .eq 42, 3), (38, .aload_n 0, 1), (39, .aload_n 0, 1), (40, .getfield 34, 3), (43, .iload 4, 2), (45, .iaload, 1), (46, .iload_n 2, 1), (47, .ifCond .eq 23, 3), (50, .aload_n 0, 1), (51, .getfield 22, 3), (54, .aload_n 0, 1), (55, .getfield 34, 3), (58, .iload 4, 2), (60, .iaload, 1), (61, .iaload, 1), (62, .aload_n 0, 1), (63, .getfield 150, 3), (66, .isub, 1), (67, .goto 4, 3), (70, .iconst 0, 1), (71, .invokevirtual 172, 3), (74, .ifCond .ne 6, 3), (77, .bipush (-4), 2), (79, .ireturn, 1), (80, .iload_n 3, 1), (81, .aload_n 0, 1), (82, .getfield 150, 3), (85, .iconst 4, 1), (86, .iload 4, 2), (88, .imul, 1), (89, .ishl, 1), (90, .ior, 1), (91, .istore_n 3, 1), (92, .iinc 4 1, 3), (95, .goto (-90), 3), (98, .iload_n 3, 1), (99, .ireturn, 1)]
theorem oX10_longOf_0 : okC cX10_longOf eX10_longOf_0 = true := by decide +kernel
theorem dX10_longOf_0 : decode cX10_longOf 0 = .ok (.iconst 0, 1) := dOf oX10_longOf_0 0 rfl
theorem dX10_longOf_1 : decode cX10_longOf 1 = .ok (.istore_n 3, 1) := dOf oX10_longOf_0 1 rfl
theorem dX10_longOf_2 : decode cX10_longOf 2 = .ok (.iconst 0, 1) := dOf oX10_longOf_0 2 rfl
theorem dX10_longOf_3 : decode cX10_longOf 3 = .ok (.istore 4, 2) := dOf oX10_longOf_0 3 rfl
theorem dX10_longOf_5 : decode cX10_longOf 5 = .ok (.iload 4, 2) := dOf oX10_longOf_0 4 rfl
theorem dX10_longOf_7 : decode cX10_longOf 7 = .ok (.aload_n 0, 1) := dOf oX10_longOf_0 5 rfl
theorem dX10_longOf_8 : decode cX10_longOf 8 = .ok (.getfield 164, 3) := dOf oX10_longOf_0 6 rfl
theorem dX10_longOf_11 : decode cX10_longOf 11 = .ok (.if_icmp .ge 87, 3) := dOf oX10_longOf_0 7 rfl
theorem dX10_longOf_14 : decode cX10_longOf 14 = .ok (.aload_n 0, 1) := dOf oX10_longOf_0 8 rfl
theorem dX10_longOf_15 : decode cX10_longOf 15 = .ok (.iconst 0, 1) := dOf oX10_longOf_0 9 rfl
theorem dX10_longOf_16 : decode cX10_longOf 16 = .ok (.putfield 150, 3) := dOf oX10_longOf_0 10 rfl
theorem dX10_longOf_19 : decode cX10_longOf 19 = .ok (.aload_n 0, 1) := dOf oX10_longOf_0 11 rfl
theorem dX10_longOf_20 : decode cX10_longOf 20 = .ok (.aload_n 0, 1) := dOf oX10_longOf_0 12 rfl
theorem dX10_longOf_21 : decode cX10_longOf 21 = .ok (.getfield 34, 3) := dOf oX10_longOf_0 13 rfl
theorem dX10_longOf_24 : decode cX10_longOf 24 = .ok (.iload 4, 2) := dOf oX10_longOf_0 14 rfl
theorem dX10_longOf_26 : decode cX10_longOf 26 = .ok (.iaload, 1) := dOf oX10_longOf_0 15 rfl
theorem dX10_longOf_27 : decode cX10_longOf 27 = .ok (.iload_n 1, 1) := dOf oX10_longOf_0 16 rfl
theorem dX10_longOf_28 : decode cX10_longOf 28 = .ok (.invokevirtual 158, 3) := dOf oX10_longOf_0 17 rfl
theorem dX10_longOf_31 : decode cX10_longOf 31 = .ok (.istore 5, 2) := dOf oX10_longOf_0 18 rfl
theorem dX10_longOf_33 : decode cX10_longOf 33 = .ok (.iload 5, 2) := dOf oX10_longOf_0 19 rfl
theorem dX10_longOf_35 : decode cX10_longOf 35 = .ok (.ifCond .eq 42, 3) := dOf oX10_longOf_0 20 rfl
theorem dX10_longOf_38 : decode cX10_longOf 38 = .ok (.aload_n 0, 1) := dOf oX10_longOf_0 21 rfl
theorem dX10_longOf_39 : decode cX10_longOf 39 = .ok (.aload_n 0, 1) := dOf oX10_longOf_0 22 rfl
theorem dX10_longOf_40 : decode cX10_longOf 40 = .ok (.getfield 34, 3) := dOf oX10_longOf_0 23 rfl
theorem dX10_longOf_43 : decode cX10_longOf 43 = .ok (.iload 4, 2) := dOf oX10_longOf_0 24 rfl
theorem dX10_longOf_45 : decode cX10_longOf 45 = .ok (.iaload, 1) := dOf oX10_longOf_0 25 rfl
theorem dX10_longOf_46 : decode cX10_longOf 46 = .ok (.iload_n 2, 1) := dOf oX10_longOf_0 26 rfl
theorem dX10_longOf_47 : decode cX10_longOf 47 = .ok (.ifCond .eq 23, 3) := dOf oX10_longOf_0 27 rfl
theorem dX10_longOf_50 : decode cX10_longOf 50 = .ok (.aload_n 0, 1) := dOf oX10_longOf_0 28 rfl
theorem dX10_longOf_51 : decode cX10_longOf 51 = .ok (.getfield 22, 3) := dOf oX10_longOf_0 29 rfl
theorem dX10_longOf_54 : decode cX10_longOf 54 = .ok (.aload_n 0, 1) := dOf oX10_longOf_0 30 rfl
theorem dX10_longOf_55 : decode cX10_longOf 55 = .ok (.getfield 34, 3) := dOf oX10_longOf_0 31 rfl
theorem dX10_longOf_58 : decode cX10_longOf 58 = .ok (.iload 4, 2) := dOf oX10_longOf_0 32 rfl
theorem dX10_longOf_60 : decode cX10_longOf 60 = .ok (.iaload, 1) := dOf oX10_longOf_0 33 rfl
theorem dX10_longOf_61 : decode cX10_longOf 61 = .ok (.iaload, 1) := dOf oX10_longOf_0 34 rfl
theorem dX10_longOf_62 : decode cX10_longOf 62 = .ok (.aload_n 0, 1) := dOf oX10_longOf_0 35 rfl
theorem dX10_longOf_63 : decode cX10_longOf 63 = .ok (.getfield 150, 3) := dOf oX10_longOf_0 36 rfl
theorem dX10_longOf_66 : decode cX10_longOf 66 = .ok (.isub, 1) := dOf oX10_longOf_0 37 rfl
theorem dX10_longOf_67 : decode cX10_longOf 67 = .ok (.goto 4, 3) := dOf oX10_longOf_0 38 rfl
theorem dX10_longOf_70 : decode cX10_longOf 70 = .ok (.iconst 0, 1) := dOf oX10_longOf_0 39 rfl
theorem dX10_longOf_71 : decode cX10_longOf 71 = .ok (.invokevirtual 172, 3) := dOf oX10_longOf_0 40 rfl
theorem dX10_longOf_74 : decode cX10_longOf 74 = .ok (.ifCond .ne 6, 3) := dOf oX10_longOf_0 41 rfl
theorem dX10_longOf_77 : decode cX10_longOf 77 = .ok (.bipush (-4), 2) := dOf oX10_longOf_0 42 rfl
theorem dX10_longOf_79 : decode cX10_longOf 79 = .ok (.ireturn, 1) := dOf oX10_longOf_0 43 rfl
theorem dX10_longOf_80 : decode cX10_longOf 80 = .ok (.iload_n 3, 1) := dOf oX10_longOf_0 44 rfl
theorem dX10_longOf_81 : decode cX10_longOf 81 = .ok (.aload_n 0, 1) := dOf oX10_longOf_0 45 rfl
theorem dX10_longOf_82 : decode cX10_longOf 82 = .ok (.getfield 150, 3) := dOf oX10_longOf_0 46 rfl
theorem dX10_longOf_85 : decode cX10_longOf 85 = .ok (.iconst 4, 1) := dOf oX10_longOf_0 47 rfl
theorem dX10_longOf_86 : decode cX10_longOf 86 = .ok (.iload 4, 2) := dOf oX10_longOf_0 48 rfl
theorem dX10_longOf_88 : decode cX10_longOf 88 = .ok (.imul, 1) := dOf oX10_longOf_0 49 rfl
theorem dX10_longOf_89 : decode cX10_longOf 89 = .ok (.ishl, 1) := dOf oX10_longOf_0 50 rfl
theorem dX10_longOf_90 : decode cX10_longOf 90 = .ok (.ior, 1) := dOf oX10_longOf_0 51 rfl
theorem dX10_longOf_91 : decode cX10_longOf 91 = .ok (.istore_n 3, 1) := dOf oX10_longOf_0 52 rfl
theorem dX10_longOf_92 : decode cX10_longOf 92 = .ok (.iinc 4 1, 3) := dOf oX10_longOf_0 53 rfl
theorem dX10_longOf_95 : decode cX10_longOf 95 = .ok (.goto (-90), 3) := dOf oX10_longOf_0 54 rfl
theorem dX10_longOf_98 : decode cX10_longOf 98 = .ok (.iload_n 3, 1) := dOf oX10_longOf_0 55 rfl
theorem dX10_longOf_99 : decode cX10_longOf 99 = .ok (.ireturn, 1) := dOf oX10_longOf_0 56 rfl
def eX10_typedAt_0 : List (Nat × Instr × Nat) := [(0, .iconst 0, 1), (1, .istore_n 3, 1), (2, .iconst 0, 1), (3, .istore 4, 2), (5, .iload 4, 2), (7, .aload_n 0, 1), (8, .getfield 164, 3), (11, .if_icmp .ge 116, 3), (14, .iload_n 1, 1), (15, .iconst 4, 1), (16, .iload 4, 2), (18, .imul, 1), (19, .ishr, 1), (20, .bipush 15, 2), (22, .iand, 1), (23, .istore 5, 2), (25, .iload_n 2, 1), (26, .ldc 149, 2), (28, .imul, 1), (29, .istore 6, 2), (31, .iload 5, 2), (33, .iload_n 2, 1), (34, .iadd, 1), (35, .aload_n 0, 1), (36, .getfield 22, 3), (39, .aload_n 0, 1), (40, .getfield 34, 3), (43, .iload 4, 2), (45, .iaload, 1), (46, .iaload, 1), (47, .if_icmp .le 6, 3), (50, .bipush (-4), 2), (52, .ireturn, 1), (53, .iconst 0, 1), (54, .istore 7, 2), (56, .iload 7, 2), (58, .iload_n 2, 1), (59, .if_icmp .ge 45, 3), (62, .iload 6, 2), (64, .aload_n 0, 1), (65, .getfield 19, 3), (68, .bipush 36, 2), (70, .aload_n 0, 1), (71, .getfield 34, 3), (74, .iload 4, 2), (76, .iaload, 1), (77, .imul, 1), (78, .iload 5, 2), (80, .iadd, 1), (81, .iload 7, 2), (83, .iadd, 1), (84, .iaload, 1), (85, .bipush 8, 2), (87, .iload_n 2, 1), (88, .iconst 1, 1), (89, .isub, 1), (90, .iload 7, 2), (92, .isub, 1), (93, .imul, 1), (94, .ishl, 1)]
theorem oX10_typedAt_0 : okC cX10_typedAt eX10_typedAt_0 = true := by decide +kernel
theorem dX10_typedAt_0 : decode cX10_typedAt 0 = .ok (.iconst 0, 1) := dOf oX10_typedAt_0 0 rfl
theorem dX10_typedAt_1 : decode cX10_typedAt 1 = .ok (.istore_n 3, 1) := dOf oX10_typedAt_0 1 rfl
theorem dX10_typedAt_2 : decode cX10_typedAt 2 = .ok (.iconst 0, 1) := dOf oX10_typedAt_0 2 rfl
theorem dX10_typedAt_3 : decode cX10_typedAt 3 = .ok (.istore 4, 2) := dOf oX10_typedAt_0 3 rfl
theorem dX10_typedAt_5 : decode cX10_typedAt 5 = .ok (.iload 4, 2) := dOf oX10_typedAt_0 4 rfl
theorem dX10_typedAt_7 : decode cX10_typedAt 7 = .ok (.aload_n 0, 1) := dOf oX10_typedAt_0 5 rfl
theorem dX10_typedAt_8 : decode cX10_typedAt 8 = .ok (.getfield 164, 3) := dOf oX10_typedAt_0 6 rfl
theorem dX10_typedAt_11 : decode cX10_typedAt 11 = .ok (.if_icmp .ge 116, 3) := dOf oX10_typedAt_0 7 rfl
theorem dX10_typedAt_14 : decode cX10_typedAt 14 = .ok (.iload_n 1, 1) := dOf oX10_typedAt_0 8 rfl
theorem dX10_typedAt_15 : decode cX10_typedAt 15 = .ok (.iconst 4, 1) := dOf oX10_typedAt_0 9 rfl
theorem dX10_typedAt_16 : decode cX10_typedAt 16 = .ok (.iload 4, 2) := dOf oX10_typedAt_0 10 rfl
theorem dX10_typedAt_18 : decode cX10_typedAt 18 = .ok (.imul, 1) := dOf oX10_typedAt_0 11 rfl
theorem dX10_typedAt_19 : decode cX10_typedAt 19 = .ok (.ishr, 1) := dOf oX10_typedAt_0 12 rfl
theorem dX10_typedAt_20 : decode cX10_typedAt 20 = .ok (.bipush 15, 2) := dOf oX10_typedAt_0 13 rfl
theorem dX10_typedAt_22 : decode cX10_typedAt 22 = .ok (.iand, 1) := dOf oX10_typedAt_0 14 rfl
theorem dX10_typedAt_23 : decode cX10_typedAt 23 = .ok (.istore 5, 2) := dOf oX10_typedAt_0 15 rfl
theorem dX10_typedAt_25 : decode cX10_typedAt 25 = .ok (.iload_n 2, 1) := dOf oX10_typedAt_0 16 rfl
theorem dX10_typedAt_26 : decode cX10_typedAt 26 = .ok (.ldc 149, 2) := dOf oX10_typedAt_0 17 rfl
theorem dX10_typedAt_28 : decode cX10_typedAt 28 = .ok (.imul, 1) := dOf oX10_typedAt_0 18 rfl
theorem dX10_typedAt_29 : decode cX10_typedAt 29 = .ok (.istore 6, 2) := dOf oX10_typedAt_0 19 rfl
theorem dX10_typedAt_31 : decode cX10_typedAt 31 = .ok (.iload 5, 2) := dOf oX10_typedAt_0 20 rfl
theorem dX10_typedAt_33 : decode cX10_typedAt 33 = .ok (.iload_n 2, 1) := dOf oX10_typedAt_0 21 rfl
theorem dX10_typedAt_34 : decode cX10_typedAt 34 = .ok (.iadd, 1) := dOf oX10_typedAt_0 22 rfl
theorem dX10_typedAt_35 : decode cX10_typedAt 35 = .ok (.aload_n 0, 1) := dOf oX10_typedAt_0 23 rfl
theorem dX10_typedAt_36 : decode cX10_typedAt 36 = .ok (.getfield 22, 3) := dOf oX10_typedAt_0 24 rfl
theorem dX10_typedAt_39 : decode cX10_typedAt 39 = .ok (.aload_n 0, 1) := dOf oX10_typedAt_0 25 rfl
theorem dX10_typedAt_40 : decode cX10_typedAt 40 = .ok (.getfield 34, 3) := dOf oX10_typedAt_0 26 rfl
theorem dX10_typedAt_43 : decode cX10_typedAt 43 = .ok (.iload 4, 2) := dOf oX10_typedAt_0 27 rfl
theorem dX10_typedAt_45 : decode cX10_typedAt 45 = .ok (.iaload, 1) := dOf oX10_typedAt_0 28 rfl
theorem dX10_typedAt_46 : decode cX10_typedAt 46 = .ok (.iaload, 1) := dOf oX10_typedAt_0 29 rfl
theorem dX10_typedAt_47 : decode cX10_typedAt 47 = .ok (.if_icmp .le 6, 3) := dOf oX10_typedAt_0 30 rfl
theorem dX10_typedAt_50 : decode cX10_typedAt 50 = .ok (.bipush (-4), 2) := dOf oX10_typedAt_0 31 rfl
theorem dX10_typedAt_52 : decode cX10_typedAt 52 = .ok (.ireturn, 1) := dOf oX10_typedAt_0 32 rfl
theorem dX10_typedAt_53 : decode cX10_typedAt 53 = .ok (.iconst 0, 1) := dOf oX10_typedAt_0 33 rfl
theorem dX10_typedAt_54 : decode cX10_typedAt 54 = .ok (.istore 7, 2) := dOf oX10_typedAt_0 34 rfl
theorem dX10_typedAt_56 : decode cX10_typedAt 56 = .ok (.iload 7, 2) := dOf oX10_typedAt_0 35 rfl
theorem dX10_typedAt_58 : decode cX10_typedAt 58 = .ok (.iload_n 2, 1) := dOf oX10_typedAt_0 36 rfl
theorem dX10_typedAt_59 : decode cX10_typedAt 59 = .ok (.if_icmp .ge 45, 3) := dOf oX10_typedAt_0 37 rfl
theorem dX10_typedAt_62 : decode cX10_typedAt 62 = .ok (.iload 6, 2) := dOf oX10_typedAt_0 38 rfl
theorem dX10_typedAt_64 : decode cX10_typedAt 64 = .ok (.aload_n 0, 1) := dOf oX10_typedAt_0 39 rfl
theorem dX10_typedAt_65 : decode cX10_typedAt 65 = .ok (.getfield 19, 3) := dOf oX10_typedAt_0 40 rfl
theorem dX10_typedAt_68 : decode cX10_typedAt 68 = .ok (.bipush 36, 2) := dOf oX10_typedAt_0 41 rfl
theorem dX10_typedAt_70 : decode cX10_typedAt 70 = .ok (.aload_n 0, 1) := dOf oX10_typedAt_0 42 rfl
theorem dX10_typedAt_71 : decode cX10_typedAt 71 = .ok (.getfield 34, 3) := dOf oX10_typedAt_0 43 rfl
theorem dX10_typedAt_74 : decode cX10_typedAt 74 = .ok (.iload 4, 2) := dOf oX10_typedAt_0 44 rfl
theorem dX10_typedAt_76 : decode cX10_typedAt 76 = .ok (.iaload, 1) := dOf oX10_typedAt_0 45 rfl
theorem dX10_typedAt_77 : decode cX10_typedAt 77 = .ok (.imul, 1) := dOf oX10_typedAt_0 46 rfl
theorem dX10_typedAt_78 : decode cX10_typedAt 78 = .ok (.iload 5, 2) := dOf oX10_typedAt_0 47 rfl
theorem dX10_typedAt_80 : decode cX10_typedAt 80 = .ok (.iadd, 1) := dOf oX10_typedAt_0 48 rfl
theorem dX10_typedAt_81 : decode cX10_typedAt 81 = .ok (.iload 7, 2) := dOf oX10_typedAt_0 49 rfl
theorem dX10_typedAt_83 : decode cX10_typedAt 83 = .ok (.iadd, 1) := dOf oX10_typedAt_0 50 rfl
theorem dX10_typedAt_84 : decode cX10_typedAt 84 = .ok (.iaload, 1) := dOf oX10_typedAt_0 51 rfl
theorem dX10_typedAt_85 : decode cX10_typedAt 85 = .ok (.bipush 8, 2) := dOf oX10_typedAt_0 52 rfl
theorem dX10_typedAt_87 : decode cX10_typedAt 87 = .ok (.iload_n 2, 1) := dOf oX10_typedAt_0 53 rfl
theorem dX10_typedAt_88 : decode cX10_typedAt 88 = .ok (.iconst 1, 1) := dOf oX10_typedAt_0 54 rfl
theorem dX10_typedAt_89 : decode cX10_typedAt 89 = .ok (.isub, 1) := dOf oX10_typedAt_0 55 rfl
theorem dX10_typedAt_90 : decode cX10_typedAt 90 = .ok (.iload 7, 2) := dOf oX10_typedAt_0 56 rfl
theorem dX10_typedAt_92 : decode cX10_typedAt 92 = .ok (.isub, 1) := dOf oX10_typedAt_0 57 rfl
theorem dX10_typedAt_93 : decode cX10_typedAt 93 = .ok (.imul, 1) := dOf oX10_typedAt_0 58 rfl
theorem dX10_typedAt_94 : decode cX10_typedAt 94 = .ok (.ishl, 1) := dOf oX10_typedAt_0 59 rfl
def eX10_typedAt_1 : List (Nat × Instr × Nat) := [(95, .ior, 1), (96, .istore 6, 2), (98, .iinc 7 1, 3), (101, .goto (-45), 3), (104, .iload 4, 2), (106, .ifCond .le 12, 3), (109, .iload 6, 2), (111, .iload_n 3, 1), (112, .if_icmp .eq 6, 3), (115, .bipush (-4), 2), (117, .ireturn, 1), (118, .iload 6, 2), (120, .istore_n 3, 1), (121, .iinc 4 1, 3), (124, .goto (-119), 3), (127, .iload_n 3, 1), (128, .ireturn, 1)]
theorem oX10_typedAt_1 : okC cX10_typedAt eX10_typedAt_1 = true := by decide +kernel
theorem dX10_typedAt_95 : decode cX10_typedAt 95 = .ok (.ior, 1) := dOf oX10_typedAt_1 0 rfl
theorem dX10_typedAt_96 : decode cX10_typedAt 96 = .ok (.istore 6, 2) := dOf oX10_typedAt_1 1 rfl
theorem dX10_typedAt_98 : decode cX10_typedAt 98 = .ok (.iinc 7 1, 3) := dOf oX10_typedAt_1 2 rfl
theorem dX10_typedAt_101 : decode cX10_typedAt 101 = .ok (.goto (-45), 3) := dOf oX10_typedAt_1 3 rfl
theorem dX10_typedAt_104 : decode cX10_typedAt 104 = .ok (.iload 4, 2) := dOf oX10_typedAt_1 4 rfl
theorem dX10_typedAt_106 : decode cX10_typedAt 106 = .ok (.ifCond .le 12, 3) := dOf oX10_typedAt_1 5 rfl
theorem dX10_typedAt_109 : decode cX10_typedAt 109 = .ok (.iload 6, 2) := dOf oX10_typedAt_1 6 rfl
theorem dX10_typedAt_111 : decode cX10_typedAt 111 = .ok (.iload_n 3, 1) := dOf oX10_typedAt_1 7 rfl
theorem dX10_typedAt_112 : decode cX10_typedAt 112 = .ok (.if_icmp .eq 6, 3) := dOf oX10_typedAt_1 8 rfl
theorem dX10_typedAt_115 : decode cX10_typedAt 115 = .ok (.bipush (-4), 2) := dOf oX10_typedAt_1 9 rfl
theorem dX10_typedAt_117 : decode cX10_typedAt 117 = .ok (.ireturn, 1) := dOf oX10_typedAt_1 10 rfl
theorem dX10_typedAt_118 : decode cX10_typedAt 118 = .ok (.iload 6, 2) := dOf oX10_typedAt_1 11 rfl
theorem dX10_typedAt_120 : decode cX10_typedAt 120 = .ok (.istore_n 3, 1) := dOf oX10_typedAt_1 12 rfl
theorem dX10_typedAt_121 : decode cX10_typedAt 121 = .ok (.iinc 4 1, 3) := dOf oX10_typedAt_1 13 rfl
theorem dX10_typedAt_124 : decode cX10_typedAt 124 = .ok (.goto (-119), 3) := dOf oX10_typedAt_1 14 rfl
theorem dX10_typedAt_127 : decode cX10_typedAt 127 = .ok (.iload_n 3, 1) := dOf oX10_typedAt_1 15 rfl
theorem dX10_typedAt_128 : decode cX10_typedAt 128 = .ok (.ireturn, 1) := dOf oX10_typedAt_1 16 rfl
def eX10_noteFront_0 : List (Nat × Instr × Nat) := [(0, .iload_n 2, 1), (1, .ifCond .lt 33, 3), (4, .aload_n 0, 1), (5, .getfield 37, 3), (8, .aload_n 0, 1), (9, .getfield 175, 3), (12, .iload_n 1, 1), (13, .iastore, 1), (14, .aload_n 0, 1), (15, .getfield 40, 3), (18, .aload_n 0, 1), (19, .getfield 175, 3), (22, .iload_n 2, 1), (23, .iastore, 1), (24, .aload_n 0, 1), (25, .dup, 1), (26, .getfield 175, 3), (29, .iconst 1, 1), (30, .iadd, 1), (31, .putfield 175, 3), (34, .return_, 1)]
theorem oX10_noteFront_0 : okC cX10_noteFront eX10_noteFront_0 = true := by decide +kernel
theorem dX10_noteFront_0 : decode cX10_noteFront 0 = .ok (.iload_n 2, 1) := dOf oX10_noteFront_0 0 rfl
theorem dX10_noteFront_1 : decode cX10_noteFront 1 = .ok (.ifCond .lt 33, 3) := dOf oX10_noteFront_0 1 rfl
theorem dX10_noteFront_4 : decode cX10_noteFront 4 = .ok (.aload_n 0, 1) := dOf oX10_noteFront_0 2 rfl
theorem dX10_noteFront_5 : decode cX10_noteFront 5 = .ok (.getfield 37, 3) := dOf oX10_noteFront_0 3 rfl
theorem dX10_noteFront_8 : decode cX10_noteFront 8 = .ok (.aload_n 0, 1) := dOf oX10_noteFront_0 4 rfl
theorem dX10_noteFront_9 : decode cX10_noteFront 9 = .ok (.getfield 175, 3) := dOf oX10_noteFront_0 5 rfl
theorem dX10_noteFront_12 : decode cX10_noteFront 12 = .ok (.iload_n 1, 1) := dOf oX10_noteFront_0 6 rfl
theorem dX10_noteFront_13 : decode cX10_noteFront 13 = .ok (.iastore, 1) := dOf oX10_noteFront_0 7 rfl
theorem dX10_noteFront_14 : decode cX10_noteFront 14 = .ok (.aload_n 0, 1) := dOf oX10_noteFront_0 8 rfl
theorem dX10_noteFront_15 : decode cX10_noteFront 15 = .ok (.getfield 40, 3) := dOf oX10_noteFront_0 9 rfl
theorem dX10_noteFront_18 : decode cX10_noteFront 18 = .ok (.aload_n 0, 1) := dOf oX10_noteFront_0 10 rfl
theorem dX10_noteFront_19 : decode cX10_noteFront 19 = .ok (.getfield 175, 3) := dOf oX10_noteFront_0 11 rfl
theorem dX10_noteFront_22 : decode cX10_noteFront 22 = .ok (.iload_n 2, 1) := dOf oX10_noteFront_0 12 rfl
theorem dX10_noteFront_23 : decode cX10_noteFront 23 = .ok (.iastore, 1) := dOf oX10_noteFront_0 13 rfl
theorem dX10_noteFront_24 : decode cX10_noteFront 24 = .ok (.aload_n 0, 1) := dOf oX10_noteFront_0 14 rfl
theorem dX10_noteFront_25 : decode cX10_noteFront 25 = .ok (.dup, 1) := dOf oX10_noteFront_0 15 rfl
theorem dX10_noteFront_26 : decode cX10_noteFront 26 = .ok (.getfield 175, 3) := dOf oX10_noteFront_0 16 rfl
theorem dX10_noteFront_29 : decode cX10_noteFront 29 = .ok (.iconst 1, 1) := dOf oX10_noteFront_0 17 rfl
theorem dX10_noteFront_30 : decode cX10_noteFront 30 = .ok (.iadd, 1) := dOf oX10_noteFront_0 18 rfl
theorem dX10_noteFront_31 : decode cX10_noteFront 31 = .ok (.putfield 175, 3) := dOf oX10_noteFront_0 19 rfl
theorem dX10_noteFront_34 : decode cX10_noteFront 34 = .ok (.return_, 1) := dOf oX10_noteFront_0 20 rfl
def eX10_noteBehind_0 : List (Nat × Instr × Nat) := [(0, .iload_n 2, 1), (1, .ifCond .lt 43, 3), (4, .aload_n 0, 1), (5, .getfield 43, 3), (8, .aload_n 0, 1), (9, .getfield 178, 3), (12, .iload_n 1, 1), (13, .iastore, 1), (14, .aload_n 0, 1), (15, .getfield 46, 3), (18, .aload_n 0, 1), (19, .getfield 178, 3), (22, .iload_n 2, 1), (23, .iastore, 1), (24, .aload_n 0, 1), (25, .dup, 1), (26, .getfield 178, 3), (29, .iconst 1, 1), (30, .iadd, 1), (31, .putfield 178, 3), (34, .aload_n 0, 1), (35, .getfield 50, 3), (38, .iload_n 2, 1), (39, .dup2, 1), (40, .iaload, 1), (41, .iconst 1, 1), (42, .iadd, 1), (43, .iastore, 1), (44, .return_, 1)]
theorem oX10_noteBehind_0 : okC cX10_noteBehind eX10_noteBehind_0 = true := by decide +kernel
theorem dX10_noteBehind_0 : decode cX10_noteBehind 0 = .ok (.iload_n 2, 1) := dOf oX10_noteBehind_0 0 rfl
theorem dX10_noteBehind_1 : decode cX10_noteBehind 1 = .ok (.ifCond .lt 43, 3) := dOf oX10_noteBehind_0 1 rfl
theorem dX10_noteBehind_4 : decode cX10_noteBehind 4 = .ok (.aload_n 0, 1) := dOf oX10_noteBehind_0 2 rfl
theorem dX10_noteBehind_5 : decode cX10_noteBehind 5 = .ok (.getfield 43, 3) := dOf oX10_noteBehind_0 3 rfl
theorem dX10_noteBehind_8 : decode cX10_noteBehind 8 = .ok (.aload_n 0, 1) := dOf oX10_noteBehind_0 4 rfl
theorem dX10_noteBehind_9 : decode cX10_noteBehind 9 = .ok (.getfield 178, 3) := dOf oX10_noteBehind_0 5 rfl
theorem dX10_noteBehind_12 : decode cX10_noteBehind 12 = .ok (.iload_n 1, 1) := dOf oX10_noteBehind_0 6 rfl
theorem dX10_noteBehind_13 : decode cX10_noteBehind 13 = .ok (.iastore, 1) := dOf oX10_noteBehind_0 7 rfl
theorem dX10_noteBehind_14 : decode cX10_noteBehind 14 = .ok (.aload_n 0, 1) := dOf oX10_noteBehind_0 8 rfl
theorem dX10_noteBehind_15 : decode cX10_noteBehind 15 = .ok (.getfield 46, 3) := dOf oX10_noteBehind_0 9 rfl
theorem dX10_noteBehind_18 : decode cX10_noteBehind 18 = .ok (.aload_n 0, 1) := dOf oX10_noteBehind_0 10 rfl
theorem dX10_noteBehind_19 : decode cX10_noteBehind 19 = .ok (.getfield 178, 3) := dOf oX10_noteBehind_0 11 rfl
theorem dX10_noteBehind_22 : decode cX10_noteBehind 22 = .ok (.iload_n 2, 1) := dOf oX10_noteBehind_0 12 rfl
theorem dX10_noteBehind_23 : decode cX10_noteBehind 23 = .ok (.iastore, 1) := dOf oX10_noteBehind_0 13 rfl
theorem dX10_noteBehind_24 : decode cX10_noteBehind 24 = .ok (.aload_n 0, 1) := dOf oX10_noteBehind_0 14 rfl
theorem dX10_noteBehind_25 : decode cX10_noteBehind 25 = .ok (.dup, 1) := dOf oX10_noteBehind_0 15 rfl
theorem dX10_noteBehind_26 : decode cX10_noteBehind 26 = .ok (.getfield 178, 3) := dOf oX10_noteBehind_0 16 rfl
theorem dX10_noteBehind_29 : decode cX10_noteBehind 29 = .ok (.iconst 1, 1) := dOf oX10_noteBehind_0 17 rfl
theorem dX10_noteBehind_30 : decode cX10_noteBehind 30 = .ok (.iadd, 1) := dOf oX10_noteBehind_0 18 rfl
theorem dX10_noteBehind_31 : decode cX10_noteBehind 31 = .ok (.putfield 178, 3) := dOf oX10_noteBehind_0 19 rfl
theorem dX10_noteBehind_34 : decode cX10_noteBehind 34 = .ok (.aload_n 0, 1) := dOf oX10_noteBehind_0 20 rfl
theorem dX10_noteBehind_35 : decode cX10_noteBehind 35 = .ok (.getfield 50, 3) := dOf oX10_noteBehind_0 21 rfl
theorem dX10_noteBehind_38 : decode cX10_noteBehind 38 = .ok (.iload_n 2, 1) := dOf oX10_noteBehind_0 22 rfl
theorem dX10_noteBehind_39 : decode cX10_noteBehind 39 = .ok (.dup2, 1) := dOf oX10_noteBehind_0 23 rfl
theorem dX10_noteBehind_40 : decode cX10_noteBehind 40 = .ok (.iaload, 1) := dOf oX10_noteBehind_0 24 rfl
theorem dX10_noteBehind_41 : decode cX10_noteBehind 41 = .ok (.iconst 1, 1) := dOf oX10_noteBehind_0 25 rfl
theorem dX10_noteBehind_42 : decode cX10_noteBehind 42 = .ok (.iadd, 1) := dOf oX10_noteBehind_0 26 rfl
theorem dX10_noteBehind_43 : decode cX10_noteBehind 43 = .ok (.iastore, 1) := dOf oX10_noteBehind_0 27 rfl
theorem dX10_noteBehind_44 : decode cX10_noteBehind 44 = .ok (.return_, 1) := dOf oX10_noteBehind_0 28 rfl
def eX10_findPieces_0 : List (Nat × Instr × Nat) := [(0, .iconst 0, 1), (1, .istore_n 1, 1), (2, .iload_n 1, 1), (3, .aload_n 0, 1), (4, .getfield 178, 3), (7, .if_icmp .ge 21, 3), (10, .aload_n 0, 1), (11, .getfield 50, 3), (14, .aload_n 0, 1), (15, .getfield 46, 3), (18, .iload_n 1, 1), (19, .iaload, 1), (20, .iconst 0, 1), (21, .iastore, 1), (22, .iinc 1 1, 3), (25, .goto (-23), 3), (28, .aload_n 0, 1), (29, .iconst 0, 1), (30, .putfield 175, 3), (33, .aload_n 0, 1), (34, .iconst 0, 1), (35, .putfield 178, 3), (38, .iconst 0, 1), (39, .istore_n 1, 1), (40, .iload_n 1, 1), (41, .sipush 4800, 3), (44, .if_icmp .ge 31, 3), (47, .aload_n 0, 1), (48, .iload_n 1, 1), (49, .aload_n 0, 1), (50, .iload_n 1, 1), (51, .iconst 0, 1), (52, .invokevirtual 181, 3), (55, .invokevirtual 185, 3), (58, .aload_n 0, 1), (59, .iload_n 1, 1), (60, .aload_n 0, 1), (61, .iload_n 1, 1), (62, .iconst 1, 1), (63, .invokevirtual 181, 3), (66, .invokevirtual 189, 3), (69, .iinc 1 1, 3), (72, .goto (-32), 3), (75, .iconst 1, 1), (76, .istore_n 1, 1), (77, .iload_n 1, 1), (78, .iconst 3, 1), (79, .if_icmp .gt 172, 3), (82, .iconst 0, 1), (83, .istore_n 2, 1), (84, .iconst 0, 1), (85, .istore_n 3, 1), (86, .iconst 1, 1), (87, .istore 4, 2), (89, .iconst 0, 1), (90, .istore 5, 2), (92, .iload 5, 2), (94, .aload_n 0, 1), (95, .getfield 164, 3), (98, .if_icmp .ge 77, 3)]
theorem oX10_findPieces_0 : okC cX10_findPieces eX10_findPieces_0 = true := by decide +kernel
theorem dX10_findPieces_0 : decode cX10_findPieces 0 = .ok (.iconst 0, 1) := dOf oX10_findPieces_0 0 rfl
theorem dX10_findPieces_1 : decode cX10_findPieces 1 = .ok (.istore_n 1, 1) := dOf oX10_findPieces_0 1 rfl
theorem dX10_findPieces_2 : decode cX10_findPieces 2 = .ok (.iload_n 1, 1) := dOf oX10_findPieces_0 2 rfl
theorem dX10_findPieces_3 : decode cX10_findPieces 3 = .ok (.aload_n 0, 1) := dOf oX10_findPieces_0 3 rfl
theorem dX10_findPieces_4 : decode cX10_findPieces 4 = .ok (.getfield 178, 3) := dOf oX10_findPieces_0 4 rfl
theorem dX10_findPieces_7 : decode cX10_findPieces 7 = .ok (.if_icmp .ge 21, 3) := dOf oX10_findPieces_0 5 rfl
theorem dX10_findPieces_10 : decode cX10_findPieces 10 = .ok (.aload_n 0, 1) := dOf oX10_findPieces_0 6 rfl
theorem dX10_findPieces_11 : decode cX10_findPieces 11 = .ok (.getfield 50, 3) := dOf oX10_findPieces_0 7 rfl
theorem dX10_findPieces_14 : decode cX10_findPieces 14 = .ok (.aload_n 0, 1) := dOf oX10_findPieces_0 8 rfl
theorem dX10_findPieces_15 : decode cX10_findPieces 15 = .ok (.getfield 46, 3) := dOf oX10_findPieces_0 9 rfl
theorem dX10_findPieces_18 : decode cX10_findPieces 18 = .ok (.iload_n 1, 1) := dOf oX10_findPieces_0 10 rfl
theorem dX10_findPieces_19 : decode cX10_findPieces 19 = .ok (.iaload, 1) := dOf oX10_findPieces_0 11 rfl
theorem dX10_findPieces_20 : decode cX10_findPieces 20 = .ok (.iconst 0, 1) := dOf oX10_findPieces_0 12 rfl
theorem dX10_findPieces_21 : decode cX10_findPieces 21 = .ok (.iastore, 1) := dOf oX10_findPieces_0 13 rfl
theorem dX10_findPieces_22 : decode cX10_findPieces 22 = .ok (.iinc 1 1, 3) := dOf oX10_findPieces_0 14 rfl
theorem dX10_findPieces_25 : decode cX10_findPieces 25 = .ok (.goto (-23), 3) := dOf oX10_findPieces_0 15 rfl
theorem dX10_findPieces_28 : decode cX10_findPieces 28 = .ok (.aload_n 0, 1) := dOf oX10_findPieces_0 16 rfl
theorem dX10_findPieces_29 : decode cX10_findPieces 29 = .ok (.iconst 0, 1) := dOf oX10_findPieces_0 17 rfl
theorem dX10_findPieces_30 : decode cX10_findPieces 30 = .ok (.putfield 175, 3) := dOf oX10_findPieces_0 18 rfl
theorem dX10_findPieces_33 : decode cX10_findPieces 33 = .ok (.aload_n 0, 1) := dOf oX10_findPieces_0 19 rfl
theorem dX10_findPieces_34 : decode cX10_findPieces 34 = .ok (.iconst 0, 1) := dOf oX10_findPieces_0 20 rfl
theorem dX10_findPieces_35 : decode cX10_findPieces 35 = .ok (.putfield 178, 3) := dOf oX10_findPieces_0 21 rfl
theorem dX10_findPieces_38 : decode cX10_findPieces 38 = .ok (.iconst 0, 1) := dOf oX10_findPieces_0 22 rfl
theorem dX10_findPieces_39 : decode cX10_findPieces 39 = .ok (.istore_n 1, 1) := dOf oX10_findPieces_0 23 rfl
theorem dX10_findPieces_40 : decode cX10_findPieces 40 = .ok (.iload_n 1, 1) := dOf oX10_findPieces_0 24 rfl
theorem dX10_findPieces_41 : decode cX10_findPieces 41 = .ok (.sipush 4800, 3) := dOf oX10_findPieces_0 25 rfl
theorem dX10_findPieces_44 : decode cX10_findPieces 44 = .ok (.if_icmp .ge 31, 3) := dOf oX10_findPieces_0 26 rfl
theorem dX10_findPieces_47 : decode cX10_findPieces 47 = .ok (.aload_n 0, 1) := dOf oX10_findPieces_0 27 rfl
theorem dX10_findPieces_48 : decode cX10_findPieces 48 = .ok (.iload_n 1, 1) := dOf oX10_findPieces_0 28 rfl
theorem dX10_findPieces_49 : decode cX10_findPieces 49 = .ok (.aload_n 0, 1) := dOf oX10_findPieces_0 29 rfl
theorem dX10_findPieces_50 : decode cX10_findPieces 50 = .ok (.iload_n 1, 1) := dOf oX10_findPieces_0 30 rfl
theorem dX10_findPieces_51 : decode cX10_findPieces 51 = .ok (.iconst 0, 1) := dOf oX10_findPieces_0 31 rfl
theorem dX10_findPieces_52 : decode cX10_findPieces 52 = .ok (.invokevirtual 181, 3) := dOf oX10_findPieces_0 32 rfl
theorem dX10_findPieces_55 : decode cX10_findPieces 55 = .ok (.invokevirtual 185, 3) := dOf oX10_findPieces_0 33 rfl
theorem dX10_findPieces_58 : decode cX10_findPieces 58 = .ok (.aload_n 0, 1) := dOf oX10_findPieces_0 34 rfl
theorem dX10_findPieces_59 : decode cX10_findPieces 59 = .ok (.iload_n 1, 1) := dOf oX10_findPieces_0 35 rfl
theorem dX10_findPieces_60 : decode cX10_findPieces 60 = .ok (.aload_n 0, 1) := dOf oX10_findPieces_0 36 rfl
theorem dX10_findPieces_61 : decode cX10_findPieces 61 = .ok (.iload_n 1, 1) := dOf oX10_findPieces_0 37 rfl
theorem dX10_findPieces_62 : decode cX10_findPieces 62 = .ok (.iconst 1, 1) := dOf oX10_findPieces_0 38 rfl
theorem dX10_findPieces_63 : decode cX10_findPieces 63 = .ok (.invokevirtual 181, 3) := dOf oX10_findPieces_0 39 rfl
theorem dX10_findPieces_66 : decode cX10_findPieces 66 = .ok (.invokevirtual 189, 3) := dOf oX10_findPieces_0 40 rfl
theorem dX10_findPieces_69 : decode cX10_findPieces 69 = .ok (.iinc 1 1, 3) := dOf oX10_findPieces_0 41 rfl
theorem dX10_findPieces_72 : decode cX10_findPieces 72 = .ok (.goto (-32), 3) := dOf oX10_findPieces_0 42 rfl
theorem dX10_findPieces_75 : decode cX10_findPieces 75 = .ok (.iconst 1, 1) := dOf oX10_findPieces_0 43 rfl
theorem dX10_findPieces_76 : decode cX10_findPieces 76 = .ok (.istore_n 1, 1) := dOf oX10_findPieces_0 44 rfl
theorem dX10_findPieces_77 : decode cX10_findPieces 77 = .ok (.iload_n 1, 1) := dOf oX10_findPieces_0 45 rfl
theorem dX10_findPieces_78 : decode cX10_findPieces 78 = .ok (.iconst 3, 1) := dOf oX10_findPieces_0 46 rfl
theorem dX10_findPieces_79 : decode cX10_findPieces 79 = .ok (.if_icmp .gt 172, 3) := dOf oX10_findPieces_0 47 rfl
theorem dX10_findPieces_82 : decode cX10_findPieces 82 = .ok (.iconst 0, 1) := dOf oX10_findPieces_0 48 rfl
theorem dX10_findPieces_83 : decode cX10_findPieces 83 = .ok (.istore_n 2, 1) := dOf oX10_findPieces_0 49 rfl
theorem dX10_findPieces_84 : decode cX10_findPieces 84 = .ok (.iconst 0, 1) := dOf oX10_findPieces_0 50 rfl
theorem dX10_findPieces_85 : decode cX10_findPieces 85 = .ok (.istore_n 3, 1) := dOf oX10_findPieces_0 51 rfl
theorem dX10_findPieces_86 : decode cX10_findPieces 86 = .ok (.iconst 1, 1) := dOf oX10_findPieces_0 52 rfl
theorem dX10_findPieces_87 : decode cX10_findPieces 87 = .ok (.istore 4, 2) := dOf oX10_findPieces_0 53 rfl
theorem dX10_findPieces_89 : decode cX10_findPieces 89 = .ok (.iconst 0, 1) := dOf oX10_findPieces_0 54 rfl
theorem dX10_findPieces_90 : decode cX10_findPieces 90 = .ok (.istore 5, 2) := dOf oX10_findPieces_0 55 rfl
theorem dX10_findPieces_92 : decode cX10_findPieces 92 = .ok (.iload 5, 2) := dOf oX10_findPieces_0 56 rfl
theorem dX10_findPieces_94 : decode cX10_findPieces 94 = .ok (.aload_n 0, 1) := dOf oX10_findPieces_0 57 rfl
theorem dX10_findPieces_95 : decode cX10_findPieces 95 = .ok (.getfield 164, 3) := dOf oX10_findPieces_0 58 rfl
theorem dX10_findPieces_98 : decode cX10_findPieces 98 = .ok (.if_icmp .ge 77, 3) := dOf oX10_findPieces_0 59 rfl
def eX10_findPieces_1 : List (Nat × Instr × Nat) := [(101, .iload_n 2, 1), (102, .iload_n 1, 1), (103, .iconst 4, 1), (104, .iload 5, 2), (106, .imul, 1), (107, .ishl, 1), (108, .ior, 1), (109, .istore_n 2, 1), (110, .iload 4, 2), (112, .ifCond .eq 23, 3), (115, .aload_n 0, 1), (116, .getfield 22, 3), (119, .aload_n 0, 1), (120, .getfield 34, 3), (123, .iload 5, 2), (125, .iaload, 1), (126, .iaload, 1), (127, .iload_n 1, 1), (128, .if_icmp .lt 7, 3), (131, .iconst 1, 1), (132, .goto 4, 3), (135, .iconst 0, 1), (136, .istore 4, 2), (138, .iload_n 3, 1), (139, .iload 4, 2), (141, .ifCond .eq 25, 3), (144, .aload_n 0, 1), (145, .getfield 22, 3), (148, .aload_n 0, 1), (149, .getfield 34, 3), (152, .iload 5, 2), (154, .iaload, 1), (155, .iaload, 1), (156, .iload_n 1, 1), (157, .isub, 1), (158, .iconst 4, 1), (159, .iload 5, 2), (161, .imul, 1), (162, .ishl, 1), (163, .goto 4, 3), (166, .iconst 0, 1), (167, .ior, 1), (168, .istore_n 3, 1), (169, .iinc 5 1, 3), (172, .goto (-80), 3), (175, .iload 4, 2), (177, .ifCond .eq 12, 3), (180, .aload_n 0, 1), (181, .iconst 0, 1), (182, .iload_n 1, 1), (183, .invokevirtual 192, 3), (186, .goto 5, 3), (189, .bipush (-4), 2), (191, .istore 5, 2), (193, .aload_n 0, 1), (194, .iload 5, 2), (196, .iload 5, 2), (198, .ifCond .ge 8, 3), (201, .bipush (-4), 2), (203, .goto 4, 3)]
theorem oX10_findPieces_1 : okC cX10_findPieces eX10_findPieces_1 = true := by decide +kernel
theorem dX10_findPieces_101 : decode cX10_findPieces 101 = .ok (.iload_n 2, 1) := dOf oX10_findPieces_1 0 rfl
theorem dX10_findPieces_102 : decode cX10_findPieces 102 = .ok (.iload_n 1, 1) := dOf oX10_findPieces_1 1 rfl
theorem dX10_findPieces_103 : decode cX10_findPieces 103 = .ok (.iconst 4, 1) := dOf oX10_findPieces_1 2 rfl
theorem dX10_findPieces_104 : decode cX10_findPieces 104 = .ok (.iload 5, 2) := dOf oX10_findPieces_1 3 rfl
theorem dX10_findPieces_106 : decode cX10_findPieces 106 = .ok (.imul, 1) := dOf oX10_findPieces_1 4 rfl
theorem dX10_findPieces_107 : decode cX10_findPieces 107 = .ok (.ishl, 1) := dOf oX10_findPieces_1 5 rfl
theorem dX10_findPieces_108 : decode cX10_findPieces 108 = .ok (.ior, 1) := dOf oX10_findPieces_1 6 rfl
theorem dX10_findPieces_109 : decode cX10_findPieces 109 = .ok (.istore_n 2, 1) := dOf oX10_findPieces_1 7 rfl
theorem dX10_findPieces_110 : decode cX10_findPieces 110 = .ok (.iload 4, 2) := dOf oX10_findPieces_1 8 rfl
theorem dX10_findPieces_112 : decode cX10_findPieces 112 = .ok (.ifCond .eq 23, 3) := dOf oX10_findPieces_1 9 rfl
theorem dX10_findPieces_115 : decode cX10_findPieces 115 = .ok (.aload_n 0, 1) := dOf oX10_findPieces_1 10 rfl
theorem dX10_findPieces_116 : decode cX10_findPieces 116 = .ok (.getfield 22, 3) := dOf oX10_findPieces_1 11 rfl
theorem dX10_findPieces_119 : decode cX10_findPieces 119 = .ok (.aload_n 0, 1) := dOf oX10_findPieces_1 12 rfl
theorem dX10_findPieces_120 : decode cX10_findPieces 120 = .ok (.getfield 34, 3) := dOf oX10_findPieces_1 13 rfl
theorem dX10_findPieces_123 : decode cX10_findPieces 123 = .ok (.iload 5, 2) := dOf oX10_findPieces_1 14 rfl
theorem dX10_findPieces_125 : decode cX10_findPieces 125 = .ok (.iaload, 1) := dOf oX10_findPieces_1 15 rfl
theorem dX10_findPieces_126 : decode cX10_findPieces 126 = .ok (.iaload, 1) := dOf oX10_findPieces_1 16 rfl
theorem dX10_findPieces_127 : decode cX10_findPieces 127 = .ok (.iload_n 1, 1) := dOf oX10_findPieces_1 17 rfl
theorem dX10_findPieces_128 : decode cX10_findPieces 128 = .ok (.if_icmp .lt 7, 3) := dOf oX10_findPieces_1 18 rfl
theorem dX10_findPieces_131 : decode cX10_findPieces 131 = .ok (.iconst 1, 1) := dOf oX10_findPieces_1 19 rfl
theorem dX10_findPieces_132 : decode cX10_findPieces 132 = .ok (.goto 4, 3) := dOf oX10_findPieces_1 20 rfl
theorem dX10_findPieces_135 : decode cX10_findPieces 135 = .ok (.iconst 0, 1) := dOf oX10_findPieces_1 21 rfl
theorem dX10_findPieces_136 : decode cX10_findPieces 136 = .ok (.istore 4, 2) := dOf oX10_findPieces_1 22 rfl
theorem dX10_findPieces_138 : decode cX10_findPieces 138 = .ok (.iload_n 3, 1) := dOf oX10_findPieces_1 23 rfl
theorem dX10_findPieces_139 : decode cX10_findPieces 139 = .ok (.iload 4, 2) := dOf oX10_findPieces_1 24 rfl
theorem dX10_findPieces_141 : decode cX10_findPieces 141 = .ok (.ifCond .eq 25, 3) := dOf oX10_findPieces_1 25 rfl
theorem dX10_findPieces_144 : decode cX10_findPieces 144 = .ok (.aload_n 0, 1) := dOf oX10_findPieces_1 26 rfl
theorem dX10_findPieces_145 : decode cX10_findPieces 145 = .ok (.getfield 22, 3) := dOf oX10_findPieces_1 27 rfl
theorem dX10_findPieces_148 : decode cX10_findPieces 148 = .ok (.aload_n 0, 1) := dOf oX10_findPieces_1 28 rfl
theorem dX10_findPieces_149 : decode cX10_findPieces 149 = .ok (.getfield 34, 3) := dOf oX10_findPieces_1 29 rfl
theorem dX10_findPieces_152 : decode cX10_findPieces 152 = .ok (.iload 5, 2) := dOf oX10_findPieces_1 30 rfl
theorem dX10_findPieces_154 : decode cX10_findPieces 154 = .ok (.iaload, 1) := dOf oX10_findPieces_1 31 rfl
theorem dX10_findPieces_155 : decode cX10_findPieces 155 = .ok (.iaload, 1) := dOf oX10_findPieces_1 32 rfl
theorem dX10_findPieces_156 : decode cX10_findPieces 156 = .ok (.iload_n 1, 1) := dOf oX10_findPieces_1 33 rfl
theorem dX10_findPieces_157 : decode cX10_findPieces 157 = .ok (.isub, 1) := dOf oX10_findPieces_1 34 rfl
theorem dX10_findPieces_158 : decode cX10_findPieces 158 = .ok (.iconst 4, 1) := dOf oX10_findPieces_1 35 rfl
theorem dX10_findPieces_159 : decode cX10_findPieces 159 = .ok (.iload 5, 2) := dOf oX10_findPieces_1 36 rfl
theorem dX10_findPieces_161 : decode cX10_findPieces 161 = .ok (.imul, 1) := dOf oX10_findPieces_1 37 rfl
theorem dX10_findPieces_162 : decode cX10_findPieces 162 = .ok (.ishl, 1) := dOf oX10_findPieces_1 38 rfl
theorem dX10_findPieces_163 : decode cX10_findPieces 163 = .ok (.goto 4, 3) := dOf oX10_findPieces_1 39 rfl
theorem dX10_findPieces_166 : decode cX10_findPieces 166 = .ok (.iconst 0, 1) := dOf oX10_findPieces_1 40 rfl
theorem dX10_findPieces_167 : decode cX10_findPieces 167 = .ok (.ior, 1) := dOf oX10_findPieces_1 41 rfl
theorem dX10_findPieces_168 : decode cX10_findPieces 168 = .ok (.istore_n 3, 1) := dOf oX10_findPieces_1 42 rfl
theorem dX10_findPieces_169 : decode cX10_findPieces 169 = .ok (.iinc 5 1, 3) := dOf oX10_findPieces_1 43 rfl
theorem dX10_findPieces_172 : decode cX10_findPieces 172 = .ok (.goto (-80), 3) := dOf oX10_findPieces_1 44 rfl
theorem dX10_findPieces_175 : decode cX10_findPieces 175 = .ok (.iload 4, 2) := dOf oX10_findPieces_1 45 rfl
theorem dX10_findPieces_177 : decode cX10_findPieces 177 = .ok (.ifCond .eq 12, 3) := dOf oX10_findPieces_1 46 rfl
theorem dX10_findPieces_180 : decode cX10_findPieces 180 = .ok (.aload_n 0, 1) := dOf oX10_findPieces_1 47 rfl
theorem dX10_findPieces_181 : decode cX10_findPieces 181 = .ok (.iconst 0, 1) := dOf oX10_findPieces_1 48 rfl
theorem dX10_findPieces_182 : decode cX10_findPieces 182 = .ok (.iload_n 1, 1) := dOf oX10_findPieces_1 49 rfl
theorem dX10_findPieces_183 : decode cX10_findPieces 183 = .ok (.invokevirtual 192, 3) := dOf oX10_findPieces_1 50 rfl
theorem dX10_findPieces_186 : decode cX10_findPieces 186 = .ok (.goto 5, 3) := dOf oX10_findPieces_1 51 rfl
theorem dX10_findPieces_189 : decode cX10_findPieces 189 = .ok (.bipush (-4), 2) := dOf oX10_findPieces_1 52 rfl
theorem dX10_findPieces_191 : decode cX10_findPieces 191 = .ok (.istore 5, 2) := dOf oX10_findPieces_1 53 rfl
theorem dX10_findPieces_193 : decode cX10_findPieces 193 = .ok (.aload_n 0, 1) := dOf oX10_findPieces_1 54 rfl
theorem dX10_findPieces_194 : decode cX10_findPieces 194 = .ok (.iload 5, 2) := dOf oX10_findPieces_1 55 rfl
theorem dX10_findPieces_196 : decode cX10_findPieces 196 = .ok (.iload 5, 2) := dOf oX10_findPieces_1 56 rfl
theorem dX10_findPieces_198 : decode cX10_findPieces 198 = .ok (.ifCond .ge 8, 3) := dOf oX10_findPieces_1 57 rfl
theorem dX10_findPieces_201 : decode cX10_findPieces 201 = .ok (.bipush (-4), 2) := dOf oX10_findPieces_1 58 rfl
theorem dX10_findPieces_203 : decode cX10_findPieces 203 = .ok (.goto 4, 3) := dOf oX10_findPieces_1 59 rfl
def eX10_findPieces_2 : List (Nat × Instr × Nat) := [(206, .iload_n 2, 1), (207, .invokevirtual 185, 3), (210, .iload 4, 2), (212, .ifCond .eq 12, 3), (215, .aload_n 0, 1), (216, .iload_n 3, 1), (217, .iload_n 1, 1), (218, .invokevirtual 192, 3), (221, .goto 5, 3), (224, .bipush (-4), 2), (226, .istore 6, 2), (228, .aload_n 0, 1), (229, .iload 6, 2), (231, .iload 6, 2), (233, .ifCond .ge 8, 3), (236, .bipush (-4), 2), (238, .goto 4, 3), (241, .iload_n 2, 1), (242, .invokevirtual 189, 3), (245, .iinc 1 1, 3), (248, .goto (-171), 3), (251, .return_, 1)]
theorem oX10_findPieces_2 : okC cX10_findPieces eX10_findPieces_2 = true := by decide +kernel
theorem dX10_findPieces_206 : decode cX10_findPieces 206 = .ok (.iload_n 2, 1) := dOf oX10_findPieces_2 0 rfl
theorem dX10_findPieces_207 : decode cX10_findPieces 207 = .ok (.invokevirtual 185, 3) := dOf oX10_findPieces_2 1 rfl
theorem dX10_findPieces_210 : decode cX10_findPieces 210 = .ok (.iload 4, 2) := dOf oX10_findPieces_2 2 rfl
theorem dX10_findPieces_212 : decode cX10_findPieces 212 = .ok (.ifCond .eq 12, 3) := dOf oX10_findPieces_2 3 rfl
theorem dX10_findPieces_215 : decode cX10_findPieces 215 = .ok (.aload_n 0, 1) := dOf oX10_findPieces_2 4 rfl
theorem dX10_findPieces_216 : decode cX10_findPieces 216 = .ok (.iload_n 3, 1) := dOf oX10_findPieces_2 5 rfl
theorem dX10_findPieces_217 : decode cX10_findPieces 217 = .ok (.iload_n 1, 1) := dOf oX10_findPieces_2 6 rfl
theorem dX10_findPieces_218 : decode cX10_findPieces 218 = .ok (.invokevirtual 192, 3) := dOf oX10_findPieces_2 7 rfl
theorem dX10_findPieces_221 : decode cX10_findPieces 221 = .ok (.goto 5, 3) := dOf oX10_findPieces_2 8 rfl
theorem dX10_findPieces_224 : decode cX10_findPieces 224 = .ok (.bipush (-4), 2) := dOf oX10_findPieces_2 9 rfl
theorem dX10_findPieces_226 : decode cX10_findPieces 226 = .ok (.istore 6, 2) := dOf oX10_findPieces_2 10 rfl
theorem dX10_findPieces_228 : decode cX10_findPieces 228 = .ok (.aload_n 0, 1) := dOf oX10_findPieces_2 11 rfl
theorem dX10_findPieces_229 : decode cX10_findPieces 229 = .ok (.iload 6, 2) := dOf oX10_findPieces_2 12 rfl
theorem dX10_findPieces_231 : decode cX10_findPieces 231 = .ok (.iload 6, 2) := dOf oX10_findPieces_2 13 rfl
theorem dX10_findPieces_233 : decode cX10_findPieces 233 = .ok (.ifCond .ge 8, 3) := dOf oX10_findPieces_2 14 rfl
theorem dX10_findPieces_236 : decode cX10_findPieces 236 = .ok (.bipush (-4), 2) := dOf oX10_findPieces_2 15 rfl
theorem dX10_findPieces_238 : decode cX10_findPieces 238 = .ok (.goto 4, 3) := dOf oX10_findPieces_2 16 rfl
theorem dX10_findPieces_241 : decode cX10_findPieces 241 = .ok (.iload_n 2, 1) := dOf oX10_findPieces_2 17 rfl
theorem dX10_findPieces_242 : decode cX10_findPieces 242 = .ok (.invokevirtual 189, 3) := dOf oX10_findPieces_2 18 rfl
theorem dX10_findPieces_245 : decode cX10_findPieces 245 = .ok (.iinc 1 1, 3) := dOf oX10_findPieces_2 19 rfl
theorem dX10_findPieces_248 : decode cX10_findPieces 248 = .ok (.goto (-171), 3) := dOf oX10_findPieces_2 20 rfl
theorem dX10_findPieces_251 : decode cX10_findPieces 251 = .ok (.return_, 1) := dOf oX10_findPieces_2 21 rfl
def eX10_leftOf_0 : List (Nat × Instr × Nat) := [(0, .iconst 0, 1), (1, .istore_n 3, 1), (2, .iconst 0, 1), (3, .istore 4, 2), (5, .iload 4, 2), (7, .aload_n 0, 1), (8, .getfield 164, 3), (11, .if_icmp .ge 54, 3), (14, .aload_n 0, 1), (15, .getfield 22, 3), (18, .aload_n 0, 1), (19, .getfield 34, 3), (22, .iload 4, 2), (24, .iaload, 1), (25, .iaload, 1), (26, .iload_n 1, 1), (27, .iconst 4, 1), (28, .iload 4, 2), (30, .imul, 1), (31, .ishr, 1), (32, .bipush 15, 2), (34, .iand, 1), (35, .isub, 1), (36, .iload_n 2, 1), (37, .isub, 1), (38, .istore 5, 2), (40, .iload 5, 2), (42, .iconst 1, 1), (43, .if_icmp .ge 6, 3), (46, .bipush (-4), 2), (48, .ireturn, 1), (49, .iload_n 3, 1), (50, .iload 5, 2), (52, .iconst 4, 1), (53, .iload 4, 2), (55, .imul, 1), (56, .ishl, 1), (57, .ior, 1), (58, .istore_n 3, 1), (59, .iinc 4 1, 3), (62, .goto (-57), 3), (65, .iload_n 3, 1), (66, .ireturn, 1)]
theorem oX10_leftOf_0 : okC cX10_leftOf eX10_leftOf_0 = true := by decide +kernel
theorem dX10_leftOf_0 : decode cX10_leftOf 0 = .ok (.iconst 0, 1) := dOf oX10_leftOf_0 0 rfl
theorem dX10_leftOf_1 : decode cX10_leftOf 1 = .ok (.istore_n 3, 1) := dOf oX10_leftOf_0 1 rfl
theorem dX10_leftOf_2 : decode cX10_leftOf 2 = .ok (.iconst 0, 1) := dOf oX10_leftOf_0 2 rfl
theorem dX10_leftOf_3 : decode cX10_leftOf 3 = .ok (.istore 4, 2) := dOf oX10_leftOf_0 3 rfl
theorem dX10_leftOf_5 : decode cX10_leftOf 5 = .ok (.iload 4, 2) := dOf oX10_leftOf_0 4 rfl
theorem dX10_leftOf_7 : decode cX10_leftOf 7 = .ok (.aload_n 0, 1) := dOf oX10_leftOf_0 5 rfl
theorem dX10_leftOf_8 : decode cX10_leftOf 8 = .ok (.getfield 164, 3) := dOf oX10_leftOf_0 6 rfl
theorem dX10_leftOf_11 : decode cX10_leftOf 11 = .ok (.if_icmp .ge 54, 3) := dOf oX10_leftOf_0 7 rfl
theorem dX10_leftOf_14 : decode cX10_leftOf 14 = .ok (.aload_n 0, 1) := dOf oX10_leftOf_0 8 rfl
theorem dX10_leftOf_15 : decode cX10_leftOf 15 = .ok (.getfield 22, 3) := dOf oX10_leftOf_0 9 rfl
theorem dX10_leftOf_18 : decode cX10_leftOf 18 = .ok (.aload_n 0, 1) := dOf oX10_leftOf_0 10 rfl
theorem dX10_leftOf_19 : decode cX10_leftOf 19 = .ok (.getfield 34, 3) := dOf oX10_leftOf_0 11 rfl
theorem dX10_leftOf_22 : decode cX10_leftOf 22 = .ok (.iload 4, 2) := dOf oX10_leftOf_0 12 rfl
theorem dX10_leftOf_24 : decode cX10_leftOf 24 = .ok (.iaload, 1) := dOf oX10_leftOf_0 13 rfl
theorem dX10_leftOf_25 : decode cX10_leftOf 25 = .ok (.iaload, 1) := dOf oX10_leftOf_0 14 rfl
theorem dX10_leftOf_26 : decode cX10_leftOf 26 = .ok (.iload_n 1, 1) := dOf oX10_leftOf_0 15 rfl
theorem dX10_leftOf_27 : decode cX10_leftOf 27 = .ok (.iconst 4, 1) := dOf oX10_leftOf_0 16 rfl
theorem dX10_leftOf_28 : decode cX10_leftOf 28 = .ok (.iload 4, 2) := dOf oX10_leftOf_0 17 rfl
theorem dX10_leftOf_30 : decode cX10_leftOf 30 = .ok (.imul, 1) := dOf oX10_leftOf_0 18 rfl
theorem dX10_leftOf_31 : decode cX10_leftOf 31 = .ok (.ishr, 1) := dOf oX10_leftOf_0 19 rfl
theorem dX10_leftOf_32 : decode cX10_leftOf 32 = .ok (.bipush 15, 2) := dOf oX10_leftOf_0 20 rfl
theorem dX10_leftOf_34 : decode cX10_leftOf 34 = .ok (.iand, 1) := dOf oX10_leftOf_0 21 rfl
theorem dX10_leftOf_35 : decode cX10_leftOf 35 = .ok (.isub, 1) := dOf oX10_leftOf_0 22 rfl
theorem dX10_leftOf_36 : decode cX10_leftOf 36 = .ok (.iload_n 2, 1) := dOf oX10_leftOf_0 23 rfl
theorem dX10_leftOf_37 : decode cX10_leftOf 37 = .ok (.isub, 1) := dOf oX10_leftOf_0 24 rfl
theorem dX10_leftOf_38 : decode cX10_leftOf 38 = .ok (.istore 5, 2) := dOf oX10_leftOf_0 25 rfl
theorem dX10_leftOf_40 : decode cX10_leftOf 40 = .ok (.iload 5, 2) := dOf oX10_leftOf_0 26 rfl
theorem dX10_leftOf_42 : decode cX10_leftOf 42 = .ok (.iconst 1, 1) := dOf oX10_leftOf_0 27 rfl
theorem dX10_leftOf_43 : decode cX10_leftOf 43 = .ok (.if_icmp .ge 6, 3) := dOf oX10_leftOf_0 28 rfl
theorem dX10_leftOf_46 : decode cX10_leftOf 46 = .ok (.bipush (-4), 2) := dOf oX10_leftOf_0 29 rfl
theorem dX10_leftOf_48 : decode cX10_leftOf 48 = .ok (.ireturn, 1) := dOf oX10_leftOf_0 30 rfl
theorem dX10_leftOf_49 : decode cX10_leftOf 49 = .ok (.iload_n 3, 1) := dOf oX10_leftOf_0 31 rfl
theorem dX10_leftOf_50 : decode cX10_leftOf 50 = .ok (.iload 5, 2) := dOf oX10_leftOf_0 32 rfl
theorem dX10_leftOf_52 : decode cX10_leftOf 52 = .ok (.iconst 4, 1) := dOf oX10_leftOf_0 33 rfl
theorem dX10_leftOf_53 : decode cX10_leftOf 53 = .ok (.iload 4, 2) := dOf oX10_leftOf_0 34 rfl
theorem dX10_leftOf_55 : decode cX10_leftOf 55 = .ok (.imul, 1) := dOf oX10_leftOf_0 35 rfl
theorem dX10_leftOf_56 : decode cX10_leftOf 56 = .ok (.ishl, 1) := dOf oX10_leftOf_0 36 rfl
theorem dX10_leftOf_57 : decode cX10_leftOf 57 = .ok (.ior, 1) := dOf oX10_leftOf_0 37 rfl
theorem dX10_leftOf_58 : decode cX10_leftOf 58 = .ok (.istore_n 3, 1) := dOf oX10_leftOf_0 38 rfl
theorem dX10_leftOf_59 : decode cX10_leftOf 59 = .ok (.iinc 4 1, 3) := dOf oX10_leftOf_0 39 rfl
theorem dX10_leftOf_62 : decode cX10_leftOf 62 = .ok (.goto (-57), 3) := dOf oX10_leftOf_0 40 rfl
theorem dX10_leftOf_65 : decode cX10_leftOf 65 = .ok (.iload_n 3, 1) := dOf oX10_leftOf_0 41 rfl
theorem dX10_leftOf_66 : decode cX10_leftOf 66 = .ok (.ireturn, 1) := dOf oX10_leftOf_0 42 rfl
def eX10_isAll_0 : List (Nat × Instr × Nat) := [(0, .iconst 1, 1), (1, .istore_n 2, 1), (2, .iconst 0, 1), (3, .istore_n 3, 1), (4, .iload_n 3, 1), (5, .aload_n 0, 1), (6, .getfield 164, 3), (9, .if_icmp .ge 41, 3), (12, .iload_n 2, 1), (13, .ifCond .eq 29, 3), (16, .iload_n 1, 1), (17, .iconst 4, 1), (18, .iload_n 3, 1), (19, .imul, 1), (20, .ishr, 1), (21, .bipush 15, 2), (23, .iand, 1), (24, .aload_n 0, 1), (25, .getfield 22, 3), (28, .aload_n 0, 1), (29, .getfield 34, 3), (32, .iload_n 3, 1), (33, .iaload, 1), (34, .iaload, 1), (35, .if_icmp .ne 7, 3), (38, .iconst 1, 1), (39, .goto 4, 3), (42, .iconst 0, 1), (43, .istore_n 2, 1), (44, .iinc 3 1, 3), (47, .goto (-43), 3), (50, .iload_n 2, 1), (51, .ireturn, 1)]
theorem oX10_isAll_0 : okC cX10_isAll eX10_isAll_0 = true := by decide +kernel
theorem dX10_isAll_0 : decode cX10_isAll 0 = .ok (.iconst 1, 1) := dOf oX10_isAll_0 0 rfl
theorem dX10_isAll_1 : decode cX10_isAll 1 = .ok (.istore_n 2, 1) := dOf oX10_isAll_0 1 rfl
theorem dX10_isAll_2 : decode cX10_isAll 2 = .ok (.iconst 0, 1) := dOf oX10_isAll_0 2 rfl
theorem dX10_isAll_3 : decode cX10_isAll 3 = .ok (.istore_n 3, 1) := dOf oX10_isAll_0 3 rfl
theorem dX10_isAll_4 : decode cX10_isAll 4 = .ok (.iload_n 3, 1) := dOf oX10_isAll_0 4 rfl
theorem dX10_isAll_5 : decode cX10_isAll 5 = .ok (.aload_n 0, 1) := dOf oX10_isAll_0 5 rfl
theorem dX10_isAll_6 : decode cX10_isAll 6 = .ok (.getfield 164, 3) := dOf oX10_isAll_0 6 rfl
theorem dX10_isAll_9 : decode cX10_isAll 9 = .ok (.if_icmp .ge 41, 3) := dOf oX10_isAll_0 7 rfl
theorem dX10_isAll_12 : decode cX10_isAll 12 = .ok (.iload_n 2, 1) := dOf oX10_isAll_0 8 rfl
theorem dX10_isAll_13 : decode cX10_isAll 13 = .ok (.ifCond .eq 29, 3) := dOf oX10_isAll_0 9 rfl
theorem dX10_isAll_16 : decode cX10_isAll 16 = .ok (.iload_n 1, 1) := dOf oX10_isAll_0 10 rfl
theorem dX10_isAll_17 : decode cX10_isAll 17 = .ok (.iconst 4, 1) := dOf oX10_isAll_0 11 rfl
theorem dX10_isAll_18 : decode cX10_isAll 18 = .ok (.iload_n 3, 1) := dOf oX10_isAll_0 12 rfl
theorem dX10_isAll_19 : decode cX10_isAll 19 = .ok (.imul, 1) := dOf oX10_isAll_0 13 rfl
theorem dX10_isAll_20 : decode cX10_isAll 20 = .ok (.ishr, 1) := dOf oX10_isAll_0 14 rfl
theorem dX10_isAll_21 : decode cX10_isAll 21 = .ok (.bipush 15, 2) := dOf oX10_isAll_0 15 rfl
theorem dX10_isAll_23 : decode cX10_isAll 23 = .ok (.iand, 1) := dOf oX10_isAll_0 16 rfl
theorem dX10_isAll_24 : decode cX10_isAll 24 = .ok (.aload_n 0, 1) := dOf oX10_isAll_0 17 rfl
theorem dX10_isAll_25 : decode cX10_isAll 25 = .ok (.getfield 22, 3) := dOf oX10_isAll_0 18 rfl
theorem dX10_isAll_28 : decode cX10_isAll 28 = .ok (.aload_n 0, 1) := dOf oX10_isAll_0 19 rfl
theorem dX10_isAll_29 : decode cX10_isAll 29 = .ok (.getfield 34, 3) := dOf oX10_isAll_0 20 rfl
theorem dX10_isAll_32 : decode cX10_isAll 32 = .ok (.iload_n 3, 1) := dOf oX10_isAll_0 21 rfl
theorem dX10_isAll_33 : decode cX10_isAll 33 = .ok (.iaload, 1) := dOf oX10_isAll_0 22 rfl
theorem dX10_isAll_34 : decode cX10_isAll 34 = .ok (.iaload, 1) := dOf oX10_isAll_0 23 rfl
theorem dX10_isAll_35 : decode cX10_isAll 35 = .ok (.if_icmp .ne 7, 3) := dOf oX10_isAll_0 24 rfl
theorem dX10_isAll_38 : decode cX10_isAll 38 = .ok (.iconst 1, 1) := dOf oX10_isAll_0 25 rfl
theorem dX10_isAll_39 : decode cX10_isAll 39 = .ok (.goto 4, 3) := dOf oX10_isAll_0 26 rfl
theorem dX10_isAll_42 : decode cX10_isAll 42 = .ok (.iconst 0, 1) := dOf oX10_isAll_0 27 rfl
theorem dX10_isAll_43 : decode cX10_isAll 43 = .ok (.istore_n 2, 1) := dOf oX10_isAll_0 28 rfl
theorem dX10_isAll_44 : decode cX10_isAll 44 = .ok (.iinc 3 1, 3) := dOf oX10_isAll_0 29 rfl
theorem dX10_isAll_47 : decode cX10_isAll 47 = .ok (.goto (-43), 3) := dOf oX10_isAll_0 30 rfl
theorem dX10_isAll_50 : decode cX10_isAll 50 = .ok (.iload_n 2, 1) := dOf oX10_isAll_0 31 rfl
theorem dX10_isAll_51 : decode cX10_isAll 51 = .ok (.ireturn, 1) := dOf oX10_isAll_0 32 rfl
def eX10_fittingOf_0 : List (Nat × Instr × Nat) := [(0, .lconst 0, 1), (1, .lstore_n 2, 1), (2, .iconst 0, 1), (3, .istore 4, 2), (5, .iload 4, 2), (7, .aload_n 0, 1), (8, .getfield 175, 3), (11, .if_icmp .ge 147, 3), (14, .iload_n 1, 1), (15, .iconst 1, 1), (16, .if_icmp .ne 28, 3), (19, .lload_n 2, 1), (20, .aload_n 0, 1), (21, .aload_n 0, 1), (22, .getfield 40, 3), (25, .iload 4, 2), (27, .iaload, 1), (28, .invokevirtual 195, 3), (31, .ifCond .eq 7, 3), (34, .lconst 1, 1), (35, .goto 4, 3), (38, .lconst 0, 1), (39, .ladd, 1), (40, .lstore_n 2, 1), (41, .goto 111, 3), (44, .iload_n 1, 1), (45, .iconst 2, 1), (46, .if_icmp .ne 40, 3), (49, .aload_n 0, 1), (50, .aload_n 0, 1), (51, .getfield 40, 3), (54, .iload 4, 2), (56, .iaload, 1), (57, .iconst 0, 1), (58, .invokevirtual 198, 3), (61, .istore 5, 2), (63, .lload_n 2, 1), (64, .iload 5, 2), (66, .ifCond .ge 7, 3), (69, .lconst 0, 1), (70, .goto 11, 3), (73, .aload_n 0, 1), (74, .getfield 50, 3), (77, .iload 5, 2), (79, .iaload, 1), (80, .i2l, 1), (81, .ladd, 1), (82, .lstore_n 2, 1), (83, .goto 69, 3), (86, .iconst 1, 1), (87, .istore 5, 2), (89, .iload 5, 2), (91, .iconst 3, 1), (92, .if_icmp .gt 60, 3), (95, .aload_n 0, 1), (96, .aload_n 0, 1), (97, .getfield 40, 3), (100, .iload 4, 2), (102, .iaload, 1), (103, .iload 5, 2)]
theorem oX10_fittingOf_0 : okC cX10_fittingOf eX10_fittingOf_0 = true := by decide +kernel
theorem dX10_fittingOf_0 : decode cX10_fittingOf 0 = .ok (.lconst 0, 1) := dOf oX10_fittingOf_0 0 rfl
theorem dX10_fittingOf_1 : decode cX10_fittingOf 1 = .ok (.lstore_n 2, 1) := dOf oX10_fittingOf_0 1 rfl
theorem dX10_fittingOf_2 : decode cX10_fittingOf 2 = .ok (.iconst 0, 1) := dOf oX10_fittingOf_0 2 rfl
theorem dX10_fittingOf_3 : decode cX10_fittingOf 3 = .ok (.istore 4, 2) := dOf oX10_fittingOf_0 3 rfl
theorem dX10_fittingOf_5 : decode cX10_fittingOf 5 = .ok (.iload 4, 2) := dOf oX10_fittingOf_0 4 rfl
theorem dX10_fittingOf_7 : decode cX10_fittingOf 7 = .ok (.aload_n 0, 1) := dOf oX10_fittingOf_0 5 rfl
theorem dX10_fittingOf_8 : decode cX10_fittingOf 8 = .ok (.getfield 175, 3) := dOf oX10_fittingOf_0 6 rfl
theorem dX10_fittingOf_11 : decode cX10_fittingOf 11 = .ok (.if_icmp .ge 147, 3) := dOf oX10_fittingOf_0 7 rfl
theorem dX10_fittingOf_14 : decode cX10_fittingOf 14 = .ok (.iload_n 1, 1) := dOf oX10_fittingOf_0 8 rfl
theorem dX10_fittingOf_15 : decode cX10_fittingOf 15 = .ok (.iconst 1, 1) := dOf oX10_fittingOf_0 9 rfl
theorem dX10_fittingOf_16 : decode cX10_fittingOf 16 = .ok (.if_icmp .ne 28, 3) := dOf oX10_fittingOf_0 10 rfl
theorem dX10_fittingOf_19 : decode cX10_fittingOf 19 = .ok (.lload_n 2, 1) := dOf oX10_fittingOf_0 11 rfl
theorem dX10_fittingOf_20 : decode cX10_fittingOf 20 = .ok (.aload_n 0, 1) := dOf oX10_fittingOf_0 12 rfl
theorem dX10_fittingOf_21 : decode cX10_fittingOf 21 = .ok (.aload_n 0, 1) := dOf oX10_fittingOf_0 13 rfl
theorem dX10_fittingOf_22 : decode cX10_fittingOf 22 = .ok (.getfield 40, 3) := dOf oX10_fittingOf_0 14 rfl
theorem dX10_fittingOf_25 : decode cX10_fittingOf 25 = .ok (.iload 4, 2) := dOf oX10_fittingOf_0 15 rfl
theorem dX10_fittingOf_27 : decode cX10_fittingOf 27 = .ok (.iaload, 1) := dOf oX10_fittingOf_0 16 rfl
theorem dX10_fittingOf_28 : decode cX10_fittingOf 28 = .ok (.invokevirtual 195, 3) := dOf oX10_fittingOf_0 17 rfl
theorem dX10_fittingOf_31 : decode cX10_fittingOf 31 = .ok (.ifCond .eq 7, 3) := dOf oX10_fittingOf_0 18 rfl
theorem dX10_fittingOf_34 : decode cX10_fittingOf 34 = .ok (.lconst 1, 1) := dOf oX10_fittingOf_0 19 rfl
theorem dX10_fittingOf_35 : decode cX10_fittingOf 35 = .ok (.goto 4, 3) := dOf oX10_fittingOf_0 20 rfl
theorem dX10_fittingOf_38 : decode cX10_fittingOf 38 = .ok (.lconst 0, 1) := dOf oX10_fittingOf_0 21 rfl
theorem dX10_fittingOf_39 : decode cX10_fittingOf 39 = .ok (.ladd, 1) := dOf oX10_fittingOf_0 22 rfl
theorem dX10_fittingOf_40 : decode cX10_fittingOf 40 = .ok (.lstore_n 2, 1) := dOf oX10_fittingOf_0 23 rfl
theorem dX10_fittingOf_41 : decode cX10_fittingOf 41 = .ok (.goto 111, 3) := dOf oX10_fittingOf_0 24 rfl
theorem dX10_fittingOf_44 : decode cX10_fittingOf 44 = .ok (.iload_n 1, 1) := dOf oX10_fittingOf_0 25 rfl
theorem dX10_fittingOf_45 : decode cX10_fittingOf 45 = .ok (.iconst 2, 1) := dOf oX10_fittingOf_0 26 rfl
theorem dX10_fittingOf_46 : decode cX10_fittingOf 46 = .ok (.if_icmp .ne 40, 3) := dOf oX10_fittingOf_0 27 rfl
theorem dX10_fittingOf_49 : decode cX10_fittingOf 49 = .ok (.aload_n 0, 1) := dOf oX10_fittingOf_0 28 rfl
theorem dX10_fittingOf_50 : decode cX10_fittingOf 50 = .ok (.aload_n 0, 1) := dOf oX10_fittingOf_0 29 rfl
theorem dX10_fittingOf_51 : decode cX10_fittingOf 51 = .ok (.getfield 40, 3) := dOf oX10_fittingOf_0 30 rfl
theorem dX10_fittingOf_54 : decode cX10_fittingOf 54 = .ok (.iload 4, 2) := dOf oX10_fittingOf_0 31 rfl
theorem dX10_fittingOf_56 : decode cX10_fittingOf 56 = .ok (.iaload, 1) := dOf oX10_fittingOf_0 32 rfl
theorem dX10_fittingOf_57 : decode cX10_fittingOf 57 = .ok (.iconst 0, 1) := dOf oX10_fittingOf_0 33 rfl
theorem dX10_fittingOf_58 : decode cX10_fittingOf 58 = .ok (.invokevirtual 198, 3) := dOf oX10_fittingOf_0 34 rfl
theorem dX10_fittingOf_61 : decode cX10_fittingOf 61 = .ok (.istore 5, 2) := dOf oX10_fittingOf_0 35 rfl
theorem dX10_fittingOf_63 : decode cX10_fittingOf 63 = .ok (.lload_n 2, 1) := dOf oX10_fittingOf_0 36 rfl
theorem dX10_fittingOf_64 : decode cX10_fittingOf 64 = .ok (.iload 5, 2) := dOf oX10_fittingOf_0 37 rfl
theorem dX10_fittingOf_66 : decode cX10_fittingOf 66 = .ok (.ifCond .ge 7, 3) := dOf oX10_fittingOf_0 38 rfl
theorem dX10_fittingOf_69 : decode cX10_fittingOf 69 = .ok (.lconst 0, 1) := dOf oX10_fittingOf_0 39 rfl
theorem dX10_fittingOf_70 : decode cX10_fittingOf 70 = .ok (.goto 11, 3) := dOf oX10_fittingOf_0 40 rfl
theorem dX10_fittingOf_73 : decode cX10_fittingOf 73 = .ok (.aload_n 0, 1) := dOf oX10_fittingOf_0 41 rfl
theorem dX10_fittingOf_74 : decode cX10_fittingOf 74 = .ok (.getfield 50, 3) := dOf oX10_fittingOf_0 42 rfl
theorem dX10_fittingOf_77 : decode cX10_fittingOf 77 = .ok (.iload 5, 2) := dOf oX10_fittingOf_0 43 rfl
theorem dX10_fittingOf_79 : decode cX10_fittingOf 79 = .ok (.iaload, 1) := dOf oX10_fittingOf_0 44 rfl
theorem dX10_fittingOf_80 : decode cX10_fittingOf 80 = .ok (.i2l, 1) := dOf oX10_fittingOf_0 45 rfl
theorem dX10_fittingOf_81 : decode cX10_fittingOf 81 = .ok (.ladd, 1) := dOf oX10_fittingOf_0 46 rfl
theorem dX10_fittingOf_82 : decode cX10_fittingOf 82 = .ok (.lstore_n 2, 1) := dOf oX10_fittingOf_0 47 rfl
theorem dX10_fittingOf_83 : decode cX10_fittingOf 83 = .ok (.goto 69, 3) := dOf oX10_fittingOf_0 48 rfl
theorem dX10_fittingOf_86 : decode cX10_fittingOf 86 = .ok (.iconst 1, 1) := dOf oX10_fittingOf_0 49 rfl
theorem dX10_fittingOf_87 : decode cX10_fittingOf 87 = .ok (.istore 5, 2) := dOf oX10_fittingOf_0 50 rfl
theorem dX10_fittingOf_89 : decode cX10_fittingOf 89 = .ok (.iload 5, 2) := dOf oX10_fittingOf_0 51 rfl
theorem dX10_fittingOf_91 : decode cX10_fittingOf 91 = .ok (.iconst 3, 1) := dOf oX10_fittingOf_0 52 rfl
theorem dX10_fittingOf_92 : decode cX10_fittingOf 92 = .ok (.if_icmp .gt 60, 3) := dOf oX10_fittingOf_0 53 rfl
theorem dX10_fittingOf_95 : decode cX10_fittingOf 95 = .ok (.aload_n 0, 1) := dOf oX10_fittingOf_0 54 rfl
theorem dX10_fittingOf_96 : decode cX10_fittingOf 96 = .ok (.aload_n 0, 1) := dOf oX10_fittingOf_0 55 rfl
theorem dX10_fittingOf_97 : decode cX10_fittingOf 97 = .ok (.getfield 40, 3) := dOf oX10_fittingOf_0 56 rfl
theorem dX10_fittingOf_100 : decode cX10_fittingOf 100 = .ok (.iload 4, 2) := dOf oX10_fittingOf_0 57 rfl
theorem dX10_fittingOf_102 : decode cX10_fittingOf 102 = .ok (.iaload, 1) := dOf oX10_fittingOf_0 58 rfl
theorem dX10_fittingOf_103 : decode cX10_fittingOf 103 = .ok (.iload 5, 2) := dOf oX10_fittingOf_0 59 rfl
def eX10_fittingOf_1 : List (Nat × Instr × Nat) := [(105, .invokevirtual 198, 3), (108, .istore 6, 2), (110, .lload_n 2, 1), (111, .iload 6, 2), (113, .ifCond .lt 19, 3), (116, .aload_n 0, 1), (117, .aload_n 0, 1), (118, .getfield 40, 3), (121, .iload 4, 2), (123, .iaload, 1), (124, .iload 5, 2), (126, .invokevirtual 192, 3), (129, .ifCond .ge 7, 3), (132, .lconst 0, 1), (133, .goto 11, 3), (136, .aload_n 0, 1), (137, .getfield 50, 3), (140, .iload 6, 2), (142, .iaload, 1), (143, .i2l, 1), (144, .ladd, 1), (145, .lstore_n 2, 1), (146, .iinc 5 1, 3), (149, .goto (-60), 3), (152, .iinc 4 1, 3), (155, .goto (-150), 3), (158, .lload_n 2, 1), (159, .lreturn, 1)]
theorem oX10_fittingOf_1 : okC cX10_fittingOf eX10_fittingOf_1 = true := by decide +kernel
theorem dX10_fittingOf_105 : decode cX10_fittingOf 105 = .ok (.invokevirtual 198, 3) := dOf oX10_fittingOf_1 0 rfl
theorem dX10_fittingOf_108 : decode cX10_fittingOf 108 = .ok (.istore 6, 2) := dOf oX10_fittingOf_1 1 rfl
theorem dX10_fittingOf_110 : decode cX10_fittingOf 110 = .ok (.lload_n 2, 1) := dOf oX10_fittingOf_1 2 rfl
theorem dX10_fittingOf_111 : decode cX10_fittingOf 111 = .ok (.iload 6, 2) := dOf oX10_fittingOf_1 3 rfl
theorem dX10_fittingOf_113 : decode cX10_fittingOf 113 = .ok (.ifCond .lt 19, 3) := dOf oX10_fittingOf_1 4 rfl
theorem dX10_fittingOf_116 : decode cX10_fittingOf 116 = .ok (.aload_n 0, 1) := dOf oX10_fittingOf_1 5 rfl
theorem dX10_fittingOf_117 : decode cX10_fittingOf 117 = .ok (.aload_n 0, 1) := dOf oX10_fittingOf_1 6 rfl
theorem dX10_fittingOf_118 : decode cX10_fittingOf 118 = .ok (.getfield 40, 3) := dOf oX10_fittingOf_1 7 rfl
theorem dX10_fittingOf_121 : decode cX10_fittingOf 121 = .ok (.iload 4, 2) := dOf oX10_fittingOf_1 8 rfl
theorem dX10_fittingOf_123 : decode cX10_fittingOf 123 = .ok (.iaload, 1) := dOf oX10_fittingOf_1 9 rfl
theorem dX10_fittingOf_124 : decode cX10_fittingOf 124 = .ok (.iload 5, 2) := dOf oX10_fittingOf_1 10 rfl
theorem dX10_fittingOf_126 : decode cX10_fittingOf 126 = .ok (.invokevirtual 192, 3) := dOf oX10_fittingOf_1 11 rfl
theorem dX10_fittingOf_129 : decode cX10_fittingOf 129 = .ok (.ifCond .ge 7, 3) := dOf oX10_fittingOf_1 12 rfl
theorem dX10_fittingOf_132 : decode cX10_fittingOf 132 = .ok (.lconst 0, 1) := dOf oX10_fittingOf_1 13 rfl
theorem dX10_fittingOf_133 : decode cX10_fittingOf 133 = .ok (.goto 11, 3) := dOf oX10_fittingOf_1 14 rfl
theorem dX10_fittingOf_136 : decode cX10_fittingOf 136 = .ok (.aload_n 0, 1) := dOf oX10_fittingOf_1 15 rfl
theorem dX10_fittingOf_137 : decode cX10_fittingOf 137 = .ok (.getfield 50, 3) := dOf oX10_fittingOf_1 16 rfl
theorem dX10_fittingOf_140 : decode cX10_fittingOf 140 = .ok (.iload 6, 2) := dOf oX10_fittingOf_1 17 rfl
theorem dX10_fittingOf_142 : decode cX10_fittingOf 142 = .ok (.iaload, 1) := dOf oX10_fittingOf_1 18 rfl
theorem dX10_fittingOf_143 : decode cX10_fittingOf 143 = .ok (.i2l, 1) := dOf oX10_fittingOf_1 19 rfl
theorem dX10_fittingOf_144 : decode cX10_fittingOf 144 = .ok (.ladd, 1) := dOf oX10_fittingOf_1 20 rfl
theorem dX10_fittingOf_145 : decode cX10_fittingOf 145 = .ok (.lstore_n 2, 1) := dOf oX10_fittingOf_1 21 rfl
theorem dX10_fittingOf_146 : decode cX10_fittingOf 146 = .ok (.iinc 5 1, 3) := dOf oX10_fittingOf_1 22 rfl
theorem dX10_fittingOf_149 : decode cX10_fittingOf 149 = .ok (.goto (-60), 3) := dOf oX10_fittingOf_1 23 rfl
theorem dX10_fittingOf_152 : decode cX10_fittingOf 152 = .ok (.iinc 4 1, 3) := dOf oX10_fittingOf_1 24 rfl
theorem dX10_fittingOf_155 : decode cX10_fittingOf 155 = .ok (.goto (-150), 3) := dOf oX10_fittingOf_1 25 rfl
theorem dX10_fittingOf_158 : decode cX10_fittingOf 158 = .ok (.lload_n 2, 1) := dOf oX10_fittingOf_1 26 rfl
theorem dX10_fittingOf_159 : decode cX10_fittingOf 159 = .ok (.lreturn, 1) := dOf oX10_fittingOf_1 27 rfl
def eX10_fitting_0 : List (Nat × Instr × Nat) := [(0, .iload_n 1, 1), (1, .i2l, 1), (2, .lconst 0, 1), (3, .ldc2_w 201, 3), (6, .invokestatic 84, 3), (9, .ifCond .ne 7, 3), (12, .ldc2_w 109, 3), (15, .lreturn, 1), (16, .aload_n 0, 1), (17, .iconst 1, 1), (18, .invokevirtual 169, 3), (21, .ifCond .ne 7, 3), (24, .ldc2_w 203, 3), (27, .lreturn, 1), (28, .aload_n 0, 1), (29, .iconst 0, 1), (30, .invokevirtual 205, 3), (33, .aload_n 0, 1), (34, .invokevirtual 209, 3), (37, .iload_n 1, 1), (38, .ifCond .le 11, 3), (41, .aload_n 0, 1), (42, .iload_n 1, 1), (43, .invokevirtual 212, 3), (46, .goto 20, 3), (49, .aload_n 0, 1), (50, .iconst 1, 1), (51, .invokevirtual 212, 3), (54, .aload_n 0, 1), (55, .iconst 2, 1), (56, .invokevirtual 212, 3), (59, .ladd, 1), (60, .aload_n 0, 1), (61, .iconst 3, 1), (62, .invokevirtual 212, 3), (65, .ladd, 1), (66, .lreturn, 1)]
theorem oX10_fitting_0 : okC cX10_fitting eX10_fitting_0 = true := by decide +kernel
theorem dX10_fitting_0 : decode cX10_fitting 0 = .ok (.iload_n 1, 1) := dOf oX10_fitting_0 0 rfl
theorem dX10_fitting_1 : decode cX10_fitting 1 = .ok (.i2l, 1) := dOf oX10_fitting_0 1 rfl
theorem dX10_fitting_2 : decode cX10_fitting 2 = .ok (.lconst 0, 1) := dOf oX10_fitting_0 2 rfl
theorem dX10_fitting_3 : decode cX10_fitting 3 = .ok (.ldc2_w 201, 3) := dOf oX10_fitting_0 3 rfl
theorem dX10_fitting_6 : decode cX10_fitting 6 = .ok (.invokestatic 84, 3) := dOf oX10_fitting_0 4 rfl
theorem dX10_fitting_9 : decode cX10_fitting 9 = .ok (.ifCond .ne 7, 3) := dOf oX10_fitting_0 5 rfl
theorem dX10_fitting_12 : decode cX10_fitting 12 = .ok (.ldc2_w 109, 3) := dOf oX10_fitting_0 6 rfl
theorem dX10_fitting_15 : decode cX10_fitting 15 = .ok (.lreturn, 1) := dOf oX10_fitting_0 7 rfl
theorem dX10_fitting_16 : decode cX10_fitting 16 = .ok (.aload_n 0, 1) := dOf oX10_fitting_0 8 rfl
theorem dX10_fitting_17 : decode cX10_fitting 17 = .ok (.iconst 1, 1) := dOf oX10_fitting_0 9 rfl
theorem dX10_fitting_18 : decode cX10_fitting 18 = .ok (.invokevirtual 169, 3) := dOf oX10_fitting_0 10 rfl
theorem dX10_fitting_21 : decode cX10_fitting 21 = .ok (.ifCond .ne 7, 3) := dOf oX10_fitting_0 11 rfl
theorem dX10_fitting_24 : decode cX10_fitting 24 = .ok (.ldc2_w 203, 3) := dOf oX10_fitting_0 12 rfl
theorem dX10_fitting_27 : decode cX10_fitting 27 = .ok (.lreturn, 1) := dOf oX10_fitting_0 13 rfl
theorem dX10_fitting_28 : decode cX10_fitting 28 = .ok (.aload_n 0, 1) := dOf oX10_fitting_0 14 rfl
theorem dX10_fitting_29 : decode cX10_fitting 29 = .ok (.iconst 0, 1) := dOf oX10_fitting_0 15 rfl
theorem dX10_fitting_30 : decode cX10_fitting 30 = .ok (.invokevirtual 205, 3) := dOf oX10_fitting_0 16 rfl
theorem dX10_fitting_33 : decode cX10_fitting 33 = .ok (.aload_n 0, 1) := dOf oX10_fitting_0 17 rfl
theorem dX10_fitting_34 : decode cX10_fitting 34 = .ok (.invokevirtual 209, 3) := dOf oX10_fitting_0 18 rfl
theorem dX10_fitting_37 : decode cX10_fitting 37 = .ok (.iload_n 1, 1) := dOf oX10_fitting_0 19 rfl
theorem dX10_fitting_38 : decode cX10_fitting 38 = .ok (.ifCond .le 11, 3) := dOf oX10_fitting_0 20 rfl
theorem dX10_fitting_41 : decode cX10_fitting 41 = .ok (.aload_n 0, 1) := dOf oX10_fitting_0 21 rfl
theorem dX10_fitting_42 : decode cX10_fitting 42 = .ok (.iload_n 1, 1) := dOf oX10_fitting_0 22 rfl
theorem dX10_fitting_43 : decode cX10_fitting 43 = .ok (.invokevirtual 212, 3) := dOf oX10_fitting_0 23 rfl
theorem dX10_fitting_46 : decode cX10_fitting 46 = .ok (.goto 20, 3) := dOf oX10_fitting_0 24 rfl
theorem dX10_fitting_49 : decode cX10_fitting 49 = .ok (.aload_n 0, 1) := dOf oX10_fitting_0 25 rfl
theorem dX10_fitting_50 : decode cX10_fitting 50 = .ok (.iconst 1, 1) := dOf oX10_fitting_0 26 rfl
theorem dX10_fitting_51 : decode cX10_fitting 51 = .ok (.invokevirtual 212, 3) := dOf oX10_fitting_0 27 rfl
theorem dX10_fitting_54 : decode cX10_fitting 54 = .ok (.aload_n 0, 1) := dOf oX10_fitting_0 28 rfl
theorem dX10_fitting_55 : decode cX10_fitting 55 = .ok (.iconst 2, 1) := dOf oX10_fitting_0 29 rfl
theorem dX10_fitting_56 : decode cX10_fitting 56 = .ok (.invokevirtual 212, 3) := dOf oX10_fitting_0 30 rfl
theorem dX10_fitting_59 : decode cX10_fitting 59 = .ok (.ladd, 1) := dOf oX10_fitting_0 31 rfl
theorem dX10_fitting_60 : decode cX10_fitting 60 = .ok (.aload_n 0, 1) := dOf oX10_fitting_0 32 rfl
theorem dX10_fitting_61 : decode cX10_fitting 61 = .ok (.iconst 3, 1) := dOf oX10_fitting_0 33 rfl
theorem dX10_fitting_62 : decode cX10_fitting 62 = .ok (.invokevirtual 212, 3) := dOf oX10_fitting_0 34 rfl
theorem dX10_fitting_65 : decode cX10_fitting 65 = .ok (.ladd, 1) := dOf oX10_fitting_0 35 rfl
theorem dX10_fitting_66 : decode cX10_fitting 66 = .ok (.lreturn, 1) := dOf oX10_fitting_0 36 rfl
def eX10_noteNear_0 : List (Nat × Instr × Nat) := [(0, .aload_n 0, 1), (1, .getfield 216, 3), (4, .bipush 64, 2), (6, .if_icmp .ge 53, 3), (9, .aload_n 0, 1), (10, .getfield 53, 3), (13, .iconst 3, 1), (14, .aload_n 0, 1), (15, .getfield 216, 3), (18, .imul, 1), (19, .iload_n 1, 1), (20, .iastore, 1), (21, .aload_n 0, 1), (22, .getfield 53, 3), (25, .iconst 3, 1), (26, .aload_n 0, 1), (27, .getfield 216, 3), (30, .imul, 1), (31, .iconst 1, 1), (32, .iadd, 1), (33, .iload_n 2, 1), (34, .iastore, 1), (35, .aload_n 0, 1), (36, .getfield 53, 3), (39, .iconst 3, 1), (40, .aload_n 0, 1), (41, .getfield 216, 3), (44, .imul, 1), (45, .iconst 2, 1), (46, .iadd, 1), (47, .iload_n 3, 1), (48, .iastore, 1), (49, .aload_n 0, 1), (50, .dup, 1), (51, .getfield 216, 3), (54, .iconst 1, 1), (55, .iadd, 1), (56, .putfield 216, 3), (59, .return_, 1)]
theorem oX10_noteNear_0 : okC cX10_noteNear eX10_noteNear_0 = true := by decide +kernel
theorem dX10_noteNear_0 : decode cX10_noteNear 0 = .ok (.aload_n 0, 1) := dOf oX10_noteNear_0 0 rfl
theorem dX10_noteNear_1 : decode cX10_noteNear 1 = .ok (.getfield 216, 3) := dOf oX10_noteNear_0 1 rfl
theorem dX10_noteNear_4 : decode cX10_noteNear 4 = .ok (.bipush 64, 2) := dOf oX10_noteNear_0 2 rfl
theorem dX10_noteNear_6 : decode cX10_noteNear 6 = .ok (.if_icmp .ge 53, 3) := dOf oX10_noteNear_0 3 rfl
theorem dX10_noteNear_9 : decode cX10_noteNear 9 = .ok (.aload_n 0, 1) := dOf oX10_noteNear_0 4 rfl
theorem dX10_noteNear_10 : decode cX10_noteNear 10 = .ok (.getfield 53, 3) := dOf oX10_noteNear_0 5 rfl
theorem dX10_noteNear_13 : decode cX10_noteNear 13 = .ok (.iconst 3, 1) := dOf oX10_noteNear_0 6 rfl
theorem dX10_noteNear_14 : decode cX10_noteNear 14 = .ok (.aload_n 0, 1) := dOf oX10_noteNear_0 7 rfl
theorem dX10_noteNear_15 : decode cX10_noteNear 15 = .ok (.getfield 216, 3) := dOf oX10_noteNear_0 8 rfl
theorem dX10_noteNear_18 : decode cX10_noteNear 18 = .ok (.imul, 1) := dOf oX10_noteNear_0 9 rfl
theorem dX10_noteNear_19 : decode cX10_noteNear 19 = .ok (.iload_n 1, 1) := dOf oX10_noteNear_0 10 rfl
theorem dX10_noteNear_20 : decode cX10_noteNear 20 = .ok (.iastore, 1) := dOf oX10_noteNear_0 11 rfl
theorem dX10_noteNear_21 : decode cX10_noteNear 21 = .ok (.aload_n 0, 1) := dOf oX10_noteNear_0 12 rfl
theorem dX10_noteNear_22 : decode cX10_noteNear 22 = .ok (.getfield 53, 3) := dOf oX10_noteNear_0 13 rfl
theorem dX10_noteNear_25 : decode cX10_noteNear 25 = .ok (.iconst 3, 1) := dOf oX10_noteNear_0 14 rfl
theorem dX10_noteNear_26 : decode cX10_noteNear 26 = .ok (.aload_n 0, 1) := dOf oX10_noteNear_0 15 rfl
theorem dX10_noteNear_27 : decode cX10_noteNear 27 = .ok (.getfield 216, 3) := dOf oX10_noteNear_0 16 rfl
theorem dX10_noteNear_30 : decode cX10_noteNear 30 = .ok (.imul, 1) := dOf oX10_noteNear_0 17 rfl
theorem dX10_noteNear_31 : decode cX10_noteNear 31 = .ok (.iconst 1, 1) := dOf oX10_noteNear_0 18 rfl
theorem dX10_noteNear_32 : decode cX10_noteNear 32 = .ok (.iadd, 1) := dOf oX10_noteNear_0 19 rfl
theorem dX10_noteNear_33 : decode cX10_noteNear 33 = .ok (.iload_n 2, 1) := dOf oX10_noteNear_0 20 rfl
theorem dX10_noteNear_34 : decode cX10_noteNear 34 = .ok (.iastore, 1) := dOf oX10_noteNear_0 21 rfl
theorem dX10_noteNear_35 : decode cX10_noteNear 35 = .ok (.aload_n 0, 1) := dOf oX10_noteNear_0 22 rfl
theorem dX10_noteNear_36 : decode cX10_noteNear 36 = .ok (.getfield 53, 3) := dOf oX10_noteNear_0 23 rfl
theorem dX10_noteNear_39 : decode cX10_noteNear 39 = .ok (.iconst 3, 1) := dOf oX10_noteNear_0 24 rfl
theorem dX10_noteNear_40 : decode cX10_noteNear 40 = .ok (.aload_n 0, 1) := dOf oX10_noteNear_0 25 rfl
theorem dX10_noteNear_41 : decode cX10_noteNear 41 = .ok (.getfield 216, 3) := dOf oX10_noteNear_0 26 rfl
theorem dX10_noteNear_44 : decode cX10_noteNear 44 = .ok (.imul, 1) := dOf oX10_noteNear_0 27 rfl
theorem dX10_noteNear_45 : decode cX10_noteNear 45 = .ok (.iconst 2, 1) := dOf oX10_noteNear_0 28 rfl
theorem dX10_noteNear_46 : decode cX10_noteNear 46 = .ok (.iadd, 1) := dOf oX10_noteNear_0 29 rfl
theorem dX10_noteNear_47 : decode cX10_noteNear 47 = .ok (.iload_n 3, 1) := dOf oX10_noteNear_0 30 rfl
theorem dX10_noteNear_48 : decode cX10_noteNear 48 = .ok (.iastore, 1) := dOf oX10_noteNear_0 31 rfl
theorem dX10_noteNear_49 : decode cX10_noteNear 49 = .ok (.aload_n 0, 1) := dOf oX10_noteNear_0 32 rfl
theorem dX10_noteNear_50 : decode cX10_noteNear 50 = .ok (.dup, 1) := dOf oX10_noteNear_0 33 rfl
theorem dX10_noteNear_51 : decode cX10_noteNear 51 = .ok (.getfield 216, 3) := dOf oX10_noteNear_0 34 rfl
theorem dX10_noteNear_54 : decode cX10_noteNear 54 = .ok (.iconst 1, 1) := dOf oX10_noteNear_0 35 rfl
theorem dX10_noteNear_55 : decode cX10_noteNear 55 = .ok (.iadd, 1) := dOf oX10_noteNear_0 36 rfl
theorem dX10_noteNear_56 : decode cX10_noteNear 56 = .ok (.putfield 216, 3) := dOf oX10_noteNear_0 37 rfl
theorem dX10_noteNear_59 : decode cX10_noteNear 59 = .ok (.return_, 1) := dOf oX10_noteNear_0 38 rfl
def eX10_noteWith_0 : List (Nat × Instr × Nat) := [(0, .iload_n 3, 1), (1, .ifCond .lt 12, 3), (4, .aload_n 0, 1), (5, .getfield 50, 3), (8, .iload_n 3, 1), (9, .iaload, 1), (10, .ifCond .ne 4, 3), (13, .return_, 1), (14, .iconst 0, 1), (15, .istore 5, 2), (17, .iload 5, 2), (19, .aload_n 0, 1), (20, .getfield 178, 3), (23, .if_icmp .ge 87, 3), (26, .aload_n 0, 1), (27, .getfield 216, 3), (30, .bipush 64, 2), (32, .if_icmp .ge 78, 3), (35, .aload_n 0, 1), (36, .getfield 46, 3), (39, .iload 5, 2), (41, .iaload, 1), (42, .iload_n 3, 1), (43, .if_icmp .ne 61, 3), (46, .aload_n 0, 1), (47, .getfield 43, 3), (50, .iload 5, 2), (52, .iaload, 1), (53, .invokestatic 219, 3), (56, .iload 4, 2), (58, .if_icmp .ne 46, 3), (61, .iload_n 2, 1), (62, .ifCond .ge 24, 3), (65, .aload_n 0, 1), (66, .aload_n 0, 1), (67, .getfield 37, 3), (70, .iload_n 1, 1), (71, .iaload, 1), (72, .aload_n 0, 1), (73, .getfield 43, 3), (76, .iload 5, 2), (78, .iaload, 1), (79, .iconst (-1), 1), (80, .invokevirtual 222, 3), (83, .goto 21, 3), (86, .aload_n 0, 1), (87, .aload_n 0, 1), (88, .getfield 37, 3), (91, .iload_n 1, 1), (92, .iaload, 1), (93, .iload_n 2, 1), (94, .aload_n 0, 1), (95, .getfield 43, 3), (98, .iload 5, 2), (100, .iaload, 1), (101, .invokevirtual 222, 3), (104, .iinc 5 1, 3), (107, .goto (-90), 3), (110, .return_, 1)]
theorem oX10_noteWith_0 : okC cX10_noteWith eX10_noteWith_0 = true := by decide +kernel
theorem dX10_noteWith_0 : decode cX10_noteWith 0 = .ok (.iload_n 3, 1) := dOf oX10_noteWith_0 0 rfl
theorem dX10_noteWith_1 : decode cX10_noteWith 1 = .ok (.ifCond .lt 12, 3) := dOf oX10_noteWith_0 1 rfl
theorem dX10_noteWith_4 : decode cX10_noteWith 4 = .ok (.aload_n 0, 1) := dOf oX10_noteWith_0 2 rfl
theorem dX10_noteWith_5 : decode cX10_noteWith 5 = .ok (.getfield 50, 3) := dOf oX10_noteWith_0 3 rfl
theorem dX10_noteWith_8 : decode cX10_noteWith 8 = .ok (.iload_n 3, 1) := dOf oX10_noteWith_0 4 rfl
theorem dX10_noteWith_9 : decode cX10_noteWith 9 = .ok (.iaload, 1) := dOf oX10_noteWith_0 5 rfl
theorem dX10_noteWith_10 : decode cX10_noteWith 10 = .ok (.ifCond .ne 4, 3) := dOf oX10_noteWith_0 6 rfl
theorem dX10_noteWith_13 : decode cX10_noteWith 13 = .ok (.return_, 1) := dOf oX10_noteWith_0 7 rfl
theorem dX10_noteWith_14 : decode cX10_noteWith 14 = .ok (.iconst 0, 1) := dOf oX10_noteWith_0 8 rfl
theorem dX10_noteWith_15 : decode cX10_noteWith 15 = .ok (.istore 5, 2) := dOf oX10_noteWith_0 9 rfl
theorem dX10_noteWith_17 : decode cX10_noteWith 17 = .ok (.iload 5, 2) := dOf oX10_noteWith_0 10 rfl
theorem dX10_noteWith_19 : decode cX10_noteWith 19 = .ok (.aload_n 0, 1) := dOf oX10_noteWith_0 11 rfl
theorem dX10_noteWith_20 : decode cX10_noteWith 20 = .ok (.getfield 178, 3) := dOf oX10_noteWith_0 12 rfl
theorem dX10_noteWith_23 : decode cX10_noteWith 23 = .ok (.if_icmp .ge 87, 3) := dOf oX10_noteWith_0 13 rfl
theorem dX10_noteWith_26 : decode cX10_noteWith 26 = .ok (.aload_n 0, 1) := dOf oX10_noteWith_0 14 rfl
theorem dX10_noteWith_27 : decode cX10_noteWith 27 = .ok (.getfield 216, 3) := dOf oX10_noteWith_0 15 rfl
theorem dX10_noteWith_30 : decode cX10_noteWith 30 = .ok (.bipush 64, 2) := dOf oX10_noteWith_0 16 rfl
theorem dX10_noteWith_32 : decode cX10_noteWith 32 = .ok (.if_icmp .ge 78, 3) := dOf oX10_noteWith_0 17 rfl
theorem dX10_noteWith_35 : decode cX10_noteWith 35 = .ok (.aload_n 0, 1) := dOf oX10_noteWith_0 18 rfl
theorem dX10_noteWith_36 : decode cX10_noteWith 36 = .ok (.getfield 46, 3) := dOf oX10_noteWith_0 19 rfl
theorem dX10_noteWith_39 : decode cX10_noteWith 39 = .ok (.iload 5, 2) := dOf oX10_noteWith_0 20 rfl
theorem dX10_noteWith_41 : decode cX10_noteWith 41 = .ok (.iaload, 1) := dOf oX10_noteWith_0 21 rfl
theorem dX10_noteWith_42 : decode cX10_noteWith 42 = .ok (.iload_n 3, 1) := dOf oX10_noteWith_0 22 rfl
theorem dX10_noteWith_43 : decode cX10_noteWith 43 = .ok (.if_icmp .ne 61, 3) := dOf oX10_noteWith_0 23 rfl
theorem dX10_noteWith_46 : decode cX10_noteWith 46 = .ok (.aload_n 0, 1) := dOf oX10_noteWith_0 24 rfl
theorem dX10_noteWith_47 : decode cX10_noteWith 47 = .ok (.getfield 43, 3) := dOf oX10_noteWith_0 25 rfl
theorem dX10_noteWith_50 : decode cX10_noteWith 50 = .ok (.iload 5, 2) := dOf oX10_noteWith_0 26 rfl
theorem dX10_noteWith_52 : decode cX10_noteWith 52 = .ok (.iaload, 1) := dOf oX10_noteWith_0 27 rfl
theorem dX10_noteWith_53 : decode cX10_noteWith 53 = .ok (.invokestatic 219, 3) := dOf oX10_noteWith_0 28 rfl
theorem dX10_noteWith_56 : decode cX10_noteWith 56 = .ok (.iload 4, 2) := dOf oX10_noteWith_0 29 rfl
theorem dX10_noteWith_58 : decode cX10_noteWith 58 = .ok (.if_icmp .ne 46, 3) := dOf oX10_noteWith_0 30 rfl
theorem dX10_noteWith_61 : decode cX10_noteWith 61 = .ok (.iload_n 2, 1) := dOf oX10_noteWith_0 31 rfl
theorem dX10_noteWith_62 : decode cX10_noteWith 62 = .ok (.ifCond .ge 24, 3) := dOf oX10_noteWith_0 32 rfl
theorem dX10_noteWith_65 : decode cX10_noteWith 65 = .ok (.aload_n 0, 1) := dOf oX10_noteWith_0 33 rfl
theorem dX10_noteWith_66 : decode cX10_noteWith 66 = .ok (.aload_n 0, 1) := dOf oX10_noteWith_0 34 rfl
theorem dX10_noteWith_67 : decode cX10_noteWith 67 = .ok (.getfield 37, 3) := dOf oX10_noteWith_0 35 rfl
theorem dX10_noteWith_70 : decode cX10_noteWith 70 = .ok (.iload_n 1, 1) := dOf oX10_noteWith_0 36 rfl
theorem dX10_noteWith_71 : decode cX10_noteWith 71 = .ok (.iaload, 1) := dOf oX10_noteWith_0 37 rfl
theorem dX10_noteWith_72 : decode cX10_noteWith 72 = .ok (.aload_n 0, 1) := dOf oX10_noteWith_0 38 rfl
theorem dX10_noteWith_73 : decode cX10_noteWith 73 = .ok (.getfield 43, 3) := dOf oX10_noteWith_0 39 rfl
theorem dX10_noteWith_76 : decode cX10_noteWith 76 = .ok (.iload 5, 2) := dOf oX10_noteWith_0 40 rfl
theorem dX10_noteWith_78 : decode cX10_noteWith 78 = .ok (.iaload, 1) := dOf oX10_noteWith_0 41 rfl
theorem dX10_noteWith_79 : decode cX10_noteWith 79 = .ok (.iconst (-1), 1) := dOf oX10_noteWith_0 42 rfl
theorem dX10_noteWith_80 : decode cX10_noteWith 80 = .ok (.invokevirtual 222, 3) := dOf oX10_noteWith_0 43 rfl
theorem dX10_noteWith_83 : decode cX10_noteWith 83 = .ok (.goto 21, 3) := dOf oX10_noteWith_0 44 rfl
theorem dX10_noteWith_86 : decode cX10_noteWith 86 = .ok (.aload_n 0, 1) := dOf oX10_noteWith_0 45 rfl
theorem dX10_noteWith_87 : decode cX10_noteWith 87 = .ok (.aload_n 0, 1) := dOf oX10_noteWith_0 46 rfl
theorem dX10_noteWith_88 : decode cX10_noteWith 88 = .ok (.getfield 37, 3) := dOf oX10_noteWith_0 47 rfl
theorem dX10_noteWith_91 : decode cX10_noteWith 91 = .ok (.iload_n 1, 1) := dOf oX10_noteWith_0 48 rfl
theorem dX10_noteWith_92 : decode cX10_noteWith 92 = .ok (.iaload, 1) := dOf oX10_noteWith_0 49 rfl
theorem dX10_noteWith_93 : decode cX10_noteWith 93 = .ok (.iload_n 2, 1) := dOf oX10_noteWith_0 50 rfl
theorem dX10_noteWith_94 : decode cX10_noteWith 94 = .ok (.aload_n 0, 1) := dOf oX10_noteWith_0 51 rfl
theorem dX10_noteWith_95 : decode cX10_noteWith 95 = .ok (.getfield 43, 3) := dOf oX10_noteWith_0 52 rfl
theorem dX10_noteWith_98 : decode cX10_noteWith 98 = .ok (.iload 5, 2) := dOf oX10_noteWith_0 53 rfl
theorem dX10_noteWith_100 : decode cX10_noteWith 100 = .ok (.iaload, 1) := dOf oX10_noteWith_0 54 rfl
theorem dX10_noteWith_101 : decode cX10_noteWith 101 = .ok (.invokevirtual 222, 3) := dOf oX10_noteWith_0 55 rfl
theorem dX10_noteWith_104 : decode cX10_noteWith 104 = .ok (.iinc 5 1, 3) := dOf oX10_noteWith_0 56 rfl
theorem dX10_noteWith_107 : decode cX10_noteWith 107 = .ok (.goto (-90), 3) := dOf oX10_noteWith_0 57 rfl
theorem dX10_noteWith_110 : decode cX10_noteWith 110 = .ok (.return_, 1) := dOf oX10_noteWith_0 58 rfl
def eX10_findNearest_0 : List (Nat × Instr × Nat) := [(0, .aload_n 0, 1), (1, .iconst 0, 1), (2, .invokevirtual 205, 3), (5, .aload_n 0, 1), (6, .invokevirtual 209, 3), (9, .aload_n 0, 1), (10, .iconst 0, 1), (11, .putfield 216, 3), (14, .iconst 3, 1), (15, .istore_n 1, 1), (16, .iload_n 1, 1), (17, .bipush 15, 2), (19, .if_icmp .gt 214, 3), (22, .aload_n 0, 1), (23, .getfield 216, 3), (26, .bipush 64, 2), (28, .if_icmp .ge 205, 3), (31, .iconst 0, 1), (32, .istore_n 2, 1), (33, .iload_n 2, 1), (34, .aload_n 0, 1), (35, .getfield 175, 3), (38, .if_icmp .ge 47, 3), (41, .aload_n 0, 1), (42, .aload_n 0, 1), (43, .getfield 40, 3), (46, .iload_n 2, 1), (47, .iaload, 1), (48, .invokevirtual 195, 3), (51, .ifCond .eq 28, 3), (54, .aload_n 0, 1), (55, .getfield 37, 3), (58, .iload_n 2, 1), (59, .iaload, 1), (60, .invokestatic 219, 3), (63, .iload_n 1, 1), (64, .if_icmp .ne 15, 3), (67, .aload_n 0, 1), (68, .aload_n 0, 1), (69, .getfield 37, 3), (72, .iload_n 2, 1), (73, .iaload, 1), (74, .iconst (-1), 1), (75, .iconst (-1), 1), (76, .invokevirtual 222, 3), (79, .iinc 2 1, 3), (82, .goto (-49), 3), (85, .iconst 0, 1), (86, .istore_n 2, 1), (87, .iload_n 2, 1), (88, .aload_n 0, 1), (89, .getfield 175, 3), (92, .if_icmp .ge 46, 3), (95, .aload_n 0, 1), (96, .getfield 216, 3), (99, .bipush 64, 2), (101, .if_icmp .ge 37, 3), (104, .aload_n 0, 1), (105, .iload_n 2, 1), (106, .iconst (-1), 1)]
theorem oX10_findNearest_0 : okC cX10_findNearest eX10_findNearest_0 = true := by decide +kernel
theorem dX10_findNearest_0 : decode cX10_findNearest 0 = .ok (.aload_n 0, 1) := dOf oX10_findNearest_0 0 rfl
theorem dX10_findNearest_1 : decode cX10_findNearest 1 = .ok (.iconst 0, 1) := dOf oX10_findNearest_0 1 rfl
theorem dX10_findNearest_2 : decode cX10_findNearest 2 = .ok (.invokevirtual 205, 3) := dOf oX10_findNearest_0 2 rfl
theorem dX10_findNearest_5 : decode cX10_findNearest 5 = .ok (.aload_n 0, 1) := dOf oX10_findNearest_0 3 rfl
theorem dX10_findNearest_6 : decode cX10_findNearest 6 = .ok (.invokevirtual 209, 3) := dOf oX10_findNearest_0 4 rfl
theorem dX10_findNearest_9 : decode cX10_findNearest 9 = .ok (.aload_n 0, 1) := dOf oX10_findNearest_0 5 rfl
theorem dX10_findNearest_10 : decode cX10_findNearest 10 = .ok (.iconst 0, 1) := dOf oX10_findNearest_0 6 rfl
theorem dX10_findNearest_11 : decode cX10_findNearest 11 = .ok (.putfield 216, 3) := dOf oX10_findNearest_0 7 rfl
theorem dX10_findNearest_14 : decode cX10_findNearest 14 = .ok (.iconst 3, 1) := dOf oX10_findNearest_0 8 rfl
theorem dX10_findNearest_15 : decode cX10_findNearest 15 = .ok (.istore_n 1, 1) := dOf oX10_findNearest_0 9 rfl
theorem dX10_findNearest_16 : decode cX10_findNearest 16 = .ok (.iload_n 1, 1) := dOf oX10_findNearest_0 10 rfl
theorem dX10_findNearest_17 : decode cX10_findNearest 17 = .ok (.bipush 15, 2) := dOf oX10_findNearest_0 11 rfl
theorem dX10_findNearest_19 : decode cX10_findNearest 19 = .ok (.if_icmp .gt 214, 3) := dOf oX10_findNearest_0 12 rfl
theorem dX10_findNearest_22 : decode cX10_findNearest 22 = .ok (.aload_n 0, 1) := dOf oX10_findNearest_0 13 rfl
theorem dX10_findNearest_23 : decode cX10_findNearest 23 = .ok (.getfield 216, 3) := dOf oX10_findNearest_0 14 rfl
theorem dX10_findNearest_26 : decode cX10_findNearest 26 = .ok (.bipush 64, 2) := dOf oX10_findNearest_0 15 rfl
theorem dX10_findNearest_28 : decode cX10_findNearest 28 = .ok (.if_icmp .ge 205, 3) := dOf oX10_findNearest_0 16 rfl
theorem dX10_findNearest_31 : decode cX10_findNearest 31 = .ok (.iconst 0, 1) := dOf oX10_findNearest_0 17 rfl
theorem dX10_findNearest_32 : decode cX10_findNearest 32 = .ok (.istore_n 2, 1) := dOf oX10_findNearest_0 18 rfl
theorem dX10_findNearest_33 : decode cX10_findNearest 33 = .ok (.iload_n 2, 1) := dOf oX10_findNearest_0 19 rfl
theorem dX10_findNearest_34 : decode cX10_findNearest 34 = .ok (.aload_n 0, 1) := dOf oX10_findNearest_0 20 rfl
theorem dX10_findNearest_35 : decode cX10_findNearest 35 = .ok (.getfield 175, 3) := dOf oX10_findNearest_0 21 rfl
theorem dX10_findNearest_38 : decode cX10_findNearest 38 = .ok (.if_icmp .ge 47, 3) := dOf oX10_findNearest_0 22 rfl
theorem dX10_findNearest_41 : decode cX10_findNearest 41 = .ok (.aload_n 0, 1) := dOf oX10_findNearest_0 23 rfl
theorem dX10_findNearest_42 : decode cX10_findNearest 42 = .ok (.aload_n 0, 1) := dOf oX10_findNearest_0 24 rfl
theorem dX10_findNearest_43 : decode cX10_findNearest 43 = .ok (.getfield 40, 3) := dOf oX10_findNearest_0 25 rfl
theorem dX10_findNearest_46 : decode cX10_findNearest 46 = .ok (.iload_n 2, 1) := dOf oX10_findNearest_0 26 rfl
theorem dX10_findNearest_47 : decode cX10_findNearest 47 = .ok (.iaload, 1) := dOf oX10_findNearest_0 27 rfl
theorem dX10_findNearest_48 : decode cX10_findNearest 48 = .ok (.invokevirtual 195, 3) := dOf oX10_findNearest_0 28 rfl
theorem dX10_findNearest_51 : decode cX10_findNearest 51 = .ok (.ifCond .eq 28, 3) := dOf oX10_findNearest_0 29 rfl
theorem dX10_findNearest_54 : decode cX10_findNearest 54 = .ok (.aload_n 0, 1) := dOf oX10_findNearest_0 30 rfl
theorem dX10_findNearest_55 : decode cX10_findNearest 55 = .ok (.getfield 37, 3) := dOf oX10_findNearest_0 31 rfl
theorem dX10_findNearest_58 : decode cX10_findNearest 58 = .ok (.iload_n 2, 1) := dOf oX10_findNearest_0 32 rfl
theorem dX10_findNearest_59 : decode cX10_findNearest 59 = .ok (.iaload, 1) := dOf oX10_findNearest_0 33 rfl
theorem dX10_findNearest_60 : decode cX10_findNearest 60 = .ok (.invokestatic 219, 3) := dOf oX10_findNearest_0 34 rfl
theorem dX10_findNearest_63 : decode cX10_findNearest 63 = .ok (.iload_n 1, 1) := dOf oX10_findNearest_0 35 rfl
theorem dX10_findNearest_64 : decode cX10_findNearest 64 = .ok (.if_icmp .ne 15, 3) := dOf oX10_findNearest_0 36 rfl
theorem dX10_findNearest_67 : decode cX10_findNearest 67 = .ok (.aload_n 0, 1) := dOf oX10_findNearest_0 37 rfl
theorem dX10_findNearest_68 : decode cX10_findNearest 68 = .ok (.aload_n 0, 1) := dOf oX10_findNearest_0 38 rfl
theorem dX10_findNearest_69 : decode cX10_findNearest 69 = .ok (.getfield 37, 3) := dOf oX10_findNearest_0 39 rfl
theorem dX10_findNearest_72 : decode cX10_findNearest 72 = .ok (.iload_n 2, 1) := dOf oX10_findNearest_0 40 rfl
theorem dX10_findNearest_73 : decode cX10_findNearest 73 = .ok (.iaload, 1) := dOf oX10_findNearest_0 41 rfl
theorem dX10_findNearest_74 : decode cX10_findNearest 74 = .ok (.iconst (-1), 1) := dOf oX10_findNearest_0 42 rfl
theorem dX10_findNearest_75 : decode cX10_findNearest 75 = .ok (.iconst (-1), 1) := dOf oX10_findNearest_0 43 rfl
theorem dX10_findNearest_76 : decode cX10_findNearest 76 = .ok (.invokevirtual 222, 3) := dOf oX10_findNearest_0 44 rfl
theorem dX10_findNearest_79 : decode cX10_findNearest 79 = .ok (.iinc 2 1, 3) := dOf oX10_findNearest_0 45 rfl
theorem dX10_findNearest_82 : decode cX10_findNearest 82 = .ok (.goto (-49), 3) := dOf oX10_findNearest_0 46 rfl
theorem dX10_findNearest_85 : decode cX10_findNearest 85 = .ok (.iconst 0, 1) := dOf oX10_findNearest_0 47 rfl
theorem dX10_findNearest_86 : decode cX10_findNearest 86 = .ok (.istore_n 2, 1) := dOf oX10_findNearest_0 48 rfl
theorem dX10_findNearest_87 : decode cX10_findNearest 87 = .ok (.iload_n 2, 1) := dOf oX10_findNearest_0 49 rfl
theorem dX10_findNearest_88 : decode cX10_findNearest 88 = .ok (.aload_n 0, 1) := dOf oX10_findNearest_0 50 rfl
theorem dX10_findNearest_89 : decode cX10_findNearest 89 = .ok (.getfield 175, 3) := dOf oX10_findNearest_0 51 rfl
theorem dX10_findNearest_92 : decode cX10_findNearest 92 = .ok (.if_icmp .ge 46, 3) := dOf oX10_findNearest_0 52 rfl
theorem dX10_findNearest_95 : decode cX10_findNearest 95 = .ok (.aload_n 0, 1) := dOf oX10_findNearest_0 53 rfl
theorem dX10_findNearest_96 : decode cX10_findNearest 96 = .ok (.getfield 216, 3) := dOf oX10_findNearest_0 54 rfl
theorem dX10_findNearest_99 : decode cX10_findNearest 99 = .ok (.bipush 64, 2) := dOf oX10_findNearest_0 55 rfl
theorem dX10_findNearest_101 : decode cX10_findNearest 101 = .ok (.if_icmp .ge 37, 3) := dOf oX10_findNearest_0 56 rfl
theorem dX10_findNearest_104 : decode cX10_findNearest 104 = .ok (.aload_n 0, 1) := dOf oX10_findNearest_0 57 rfl
theorem dX10_findNearest_105 : decode cX10_findNearest 105 = .ok (.iload_n 2, 1) := dOf oX10_findNearest_0 58 rfl
theorem dX10_findNearest_106 : decode cX10_findNearest 106 = .ok (.iconst (-1), 1) := dOf oX10_findNearest_0 59 rfl
def eX10_findNearest_1 : List (Nat × Instr × Nat) := [(107, .aload_n 0, 1), (108, .aload_n 0, 1), (109, .getfield 40, 3), (112, .iload_n 2, 1), (113, .iaload, 1), (114, .iconst 0, 1), (115, .invokevirtual 198, 3), (118, .iload_n 1, 1), (119, .aload_n 0, 1), (120, .getfield 37, 3), (123, .iload_n 2, 1), (124, .iaload, 1), (125, .invokestatic 219, 3), (128, .isub, 1), (129, .invokevirtual 226, 3), (132, .iinc 2 1, 3), (135, .goto (-48), 3), (138, .iconst 0, 1), (139, .istore_n 2, 1), (140, .iload_n 2, 1), (141, .aload_n 0, 1), (142, .getfield 175, 3), (145, .if_icmp .ge 82, 3), (148, .aload_n 0, 1), (149, .getfield 216, 3), (152, .bipush 64, 2), (154, .if_icmp .ge 73, 3), (157, .iconst 1, 1), (158, .istore_n 3, 1), (159, .iload_n 3, 1), (160, .iconst 3, 1), (161, .if_icmp .gt 60, 3), (164, .aload_n 0, 1), (165, .aload_n 0, 1), (166, .getfield 40, 3), (169, .iload_n 2, 1), (170, .iaload, 1), (171, .iload_n 3, 1), (172, .invokevirtual 192, 3), (175, .istore 4, 2), (177, .iload 4, 2), (179, .ifCond .lt 36, 3), (182, .aload_n 0, 1), (183, .iload_n 2, 1), (184, .iload 4, 2), (186, .aload_n 0, 1), (187, .aload_n 0, 1), (188, .getfield 40, 3), (191, .iload_n 2, 1), (192, .iaload, 1), (193, .iload_n 3, 1), (194, .invokevirtual 198, 3), (197, .iload_n 1, 1), (198, .aload_n 0, 1), (199, .getfield 37, 3), (202, .iload_n 2, 1), (203, .iaload, 1), (204, .invokestatic 219, 3), (207, .isub, 1), (208, .iconst 2, 1)]
theorem oX10_findNearest_1 : okC cX10_findNearest eX10_findNearest_1 = true := by decide +kernel
theorem dX10_findNearest_107 : decode cX10_findNearest 107 = .ok (.aload_n 0, 1) := dOf oX10_findNearest_1 0 rfl
theorem dX10_findNearest_108 : decode cX10_findNearest 108 = .ok (.aload_n 0, 1) := dOf oX10_findNearest_1 1 rfl
theorem dX10_findNearest_109 : decode cX10_findNearest 109 = .ok (.getfield 40, 3) := dOf oX10_findNearest_1 2 rfl
theorem dX10_findNearest_112 : decode cX10_findNearest 112 = .ok (.iload_n 2, 1) := dOf oX10_findNearest_1 3 rfl
theorem dX10_findNearest_113 : decode cX10_findNearest 113 = .ok (.iaload, 1) := dOf oX10_findNearest_1 4 rfl
theorem dX10_findNearest_114 : decode cX10_findNearest 114 = .ok (.iconst 0, 1) := dOf oX10_findNearest_1 5 rfl
theorem dX10_findNearest_115 : decode cX10_findNearest 115 = .ok (.invokevirtual 198, 3) := dOf oX10_findNearest_1 6 rfl
theorem dX10_findNearest_118 : decode cX10_findNearest 118 = .ok (.iload_n 1, 1) := dOf oX10_findNearest_1 7 rfl
theorem dX10_findNearest_119 : decode cX10_findNearest 119 = .ok (.aload_n 0, 1) := dOf oX10_findNearest_1 8 rfl
theorem dX10_findNearest_120 : decode cX10_findNearest 120 = .ok (.getfield 37, 3) := dOf oX10_findNearest_1 9 rfl
theorem dX10_findNearest_123 : decode cX10_findNearest 123 = .ok (.iload_n 2, 1) := dOf oX10_findNearest_1 10 rfl
theorem dX10_findNearest_124 : decode cX10_findNearest 124 = .ok (.iaload, 1) := dOf oX10_findNearest_1 11 rfl
theorem dX10_findNearest_125 : decode cX10_findNearest 125 = .ok (.invokestatic 219, 3) := dOf oX10_findNearest_1 12 rfl
theorem dX10_findNearest_128 : decode cX10_findNearest 128 = .ok (.isub, 1) := dOf oX10_findNearest_1 13 rfl
theorem dX10_findNearest_129 : decode cX10_findNearest 129 = .ok (.invokevirtual 226, 3) := dOf oX10_findNearest_1 14 rfl
theorem dX10_findNearest_132 : decode cX10_findNearest 132 = .ok (.iinc 2 1, 3) := dOf oX10_findNearest_1 15 rfl
theorem dX10_findNearest_135 : decode cX10_findNearest 135 = .ok (.goto (-48), 3) := dOf oX10_findNearest_1 16 rfl
theorem dX10_findNearest_138 : decode cX10_findNearest 138 = .ok (.iconst 0, 1) := dOf oX10_findNearest_1 17 rfl
theorem dX10_findNearest_139 : decode cX10_findNearest 139 = .ok (.istore_n 2, 1) := dOf oX10_findNearest_1 18 rfl
theorem dX10_findNearest_140 : decode cX10_findNearest 140 = .ok (.iload_n 2, 1) := dOf oX10_findNearest_1 19 rfl
theorem dX10_findNearest_141 : decode cX10_findNearest 141 = .ok (.aload_n 0, 1) := dOf oX10_findNearest_1 20 rfl
theorem dX10_findNearest_142 : decode cX10_findNearest 142 = .ok (.getfield 175, 3) := dOf oX10_findNearest_1 21 rfl
theorem dX10_findNearest_145 : decode cX10_findNearest 145 = .ok (.if_icmp .ge 82, 3) := dOf oX10_findNearest_1 22 rfl
theorem dX10_findNearest_148 : decode cX10_findNearest 148 = .ok (.aload_n 0, 1) := dOf oX10_findNearest_1 23 rfl
theorem dX10_findNearest_149 : decode cX10_findNearest 149 = .ok (.getfield 216, 3) := dOf oX10_findNearest_1 24 rfl
theorem dX10_findNearest_152 : decode cX10_findNearest 152 = .ok (.bipush 64, 2) := dOf oX10_findNearest_1 25 rfl
theorem dX10_findNearest_154 : decode cX10_findNearest 154 = .ok (.if_icmp .ge 73, 3) := dOf oX10_findNearest_1 26 rfl
theorem dX10_findNearest_157 : decode cX10_findNearest 157 = .ok (.iconst 1, 1) := dOf oX10_findNearest_1 27 rfl
theorem dX10_findNearest_158 : decode cX10_findNearest 158 = .ok (.istore_n 3, 1) := dOf oX10_findNearest_1 28 rfl
theorem dX10_findNearest_159 : decode cX10_findNearest 159 = .ok (.iload_n 3, 1) := dOf oX10_findNearest_1 29 rfl
theorem dX10_findNearest_160 : decode cX10_findNearest 160 = .ok (.iconst 3, 1) := dOf oX10_findNearest_1 30 rfl
theorem dX10_findNearest_161 : decode cX10_findNearest 161 = .ok (.if_icmp .gt 60, 3) := dOf oX10_findNearest_1 31 rfl
theorem dX10_findNearest_164 : decode cX10_findNearest 164 = .ok (.aload_n 0, 1) := dOf oX10_findNearest_1 32 rfl
theorem dX10_findNearest_165 : decode cX10_findNearest 165 = .ok (.aload_n 0, 1) := dOf oX10_findNearest_1 33 rfl
theorem dX10_findNearest_166 : decode cX10_findNearest 166 = .ok (.getfield 40, 3) := dOf oX10_findNearest_1 34 rfl
theorem dX10_findNearest_169 : decode cX10_findNearest 169 = .ok (.iload_n 2, 1) := dOf oX10_findNearest_1 35 rfl
theorem dX10_findNearest_170 : decode cX10_findNearest 170 = .ok (.iaload, 1) := dOf oX10_findNearest_1 36 rfl
theorem dX10_findNearest_171 : decode cX10_findNearest 171 = .ok (.iload_n 3, 1) := dOf oX10_findNearest_1 37 rfl
theorem dX10_findNearest_172 : decode cX10_findNearest 172 = .ok (.invokevirtual 192, 3) := dOf oX10_findNearest_1 38 rfl
theorem dX10_findNearest_175 : decode cX10_findNearest 175 = .ok (.istore 4, 2) := dOf oX10_findNearest_1 39 rfl
theorem dX10_findNearest_177 : decode cX10_findNearest 177 = .ok (.iload 4, 2) := dOf oX10_findNearest_1 40 rfl
theorem dX10_findNearest_179 : decode cX10_findNearest 179 = .ok (.ifCond .lt 36, 3) := dOf oX10_findNearest_1 41 rfl
theorem dX10_findNearest_182 : decode cX10_findNearest 182 = .ok (.aload_n 0, 1) := dOf oX10_findNearest_1 42 rfl
theorem dX10_findNearest_183 : decode cX10_findNearest 183 = .ok (.iload_n 2, 1) := dOf oX10_findNearest_1 43 rfl
theorem dX10_findNearest_184 : decode cX10_findNearest 184 = .ok (.iload 4, 2) := dOf oX10_findNearest_1 44 rfl
theorem dX10_findNearest_186 : decode cX10_findNearest 186 = .ok (.aload_n 0, 1) := dOf oX10_findNearest_1 45 rfl
theorem dX10_findNearest_187 : decode cX10_findNearest 187 = .ok (.aload_n 0, 1) := dOf oX10_findNearest_1 46 rfl
theorem dX10_findNearest_188 : decode cX10_findNearest 188 = .ok (.getfield 40, 3) := dOf oX10_findNearest_1 47 rfl
theorem dX10_findNearest_191 : decode cX10_findNearest 191 = .ok (.iload_n 2, 1) := dOf oX10_findNearest_1 48 rfl
theorem dX10_findNearest_192 : decode cX10_findNearest 192 = .ok (.iaload, 1) := dOf oX10_findNearest_1 49 rfl
theorem dX10_findNearest_193 : decode cX10_findNearest 193 = .ok (.iload_n 3, 1) := dOf oX10_findNearest_1 50 rfl
theorem dX10_findNearest_194 : decode cX10_findNearest 194 = .ok (.invokevirtual 198, 3) := dOf oX10_findNearest_1 51 rfl
theorem dX10_findNearest_197 : decode cX10_findNearest 197 = .ok (.iload_n 1, 1) := dOf oX10_findNearest_1 52 rfl
theorem dX10_findNearest_198 : decode cX10_findNearest 198 = .ok (.aload_n 0, 1) := dOf oX10_findNearest_1 53 rfl
theorem dX10_findNearest_199 : decode cX10_findNearest 199 = .ok (.getfield 37, 3) := dOf oX10_findNearest_1 54 rfl
theorem dX10_findNearest_202 : decode cX10_findNearest 202 = .ok (.iload_n 2, 1) := dOf oX10_findNearest_1 55 rfl
theorem dX10_findNearest_203 : decode cX10_findNearest 203 = .ok (.iaload, 1) := dOf oX10_findNearest_1 56 rfl
theorem dX10_findNearest_204 : decode cX10_findNearest 204 = .ok (.invokestatic 219, 3) := dOf oX10_findNearest_1 57 rfl
theorem dX10_findNearest_207 : decode cX10_findNearest 207 = .ok (.isub, 1) := dOf oX10_findNearest_1 58 rfl
theorem dX10_findNearest_208 : decode cX10_findNearest 208 = .ok (.iconst 2, 1) := dOf oX10_findNearest_1 59 rfl
def eX10_findNearest_2 : List (Nat × Instr × Nat) := [(209, .isub, 1), (210, .iload_n 3, 1), (211, .isub, 1), (212, .invokevirtual 226, 3), (215, .iinc 3 1, 3), (218, .goto (-59), 3), (221, .iinc 2 1, 3), (224, .goto (-84), 3), (227, .iinc 1 1, 3), (230, .goto (-214), 3), (233, .return_, 1)]
theorem oX10_findNearest_2 : okC cX10_findNearest eX10_findNearest_2 = true := by decide +kernel
theorem dX10_findNearest_209 : decode cX10_findNearest 209 = .ok (.isub, 1) := dOf oX10_findNearest_2 0 rfl
theorem dX10_findNearest_210 : decode cX10_findNearest 210 = .ok (.iload_n 3, 1) := dOf oX10_findNearest_2 1 rfl
theorem dX10_findNearest_211 : decode cX10_findNearest 211 = .ok (.isub, 1) := dOf oX10_findNearest_2 2 rfl
theorem dX10_findNearest_212 : decode cX10_findNearest 212 = .ok (.invokevirtual 226, 3) := dOf oX10_findNearest_2 3 rfl
theorem dX10_findNearest_215 : decode cX10_findNearest 215 = .ok (.iinc 3 1, 3) := dOf oX10_findNearest_2 4 rfl
theorem dX10_findNearest_218 : decode cX10_findNearest 218 = .ok (.goto (-59), 3) := dOf oX10_findNearest_2 5 rfl
theorem dX10_findNearest_221 : decode cX10_findNearest 221 = .ok (.iinc 2 1, 3) := dOf oX10_findNearest_2 6 rfl
theorem dX10_findNearest_224 : decode cX10_findNearest 224 = .ok (.goto (-84), 3) := dOf oX10_findNearest_2 7 rfl
theorem dX10_findNearest_227 : decode cX10_findNearest 227 = .ok (.iinc 1 1, 3) := dOf oX10_findNearest_2 8 rfl
theorem dX10_findNearest_230 : decode cX10_findNearest 230 = .ok (.goto (-214), 3) := dOf oX10_findNearest_2 9 rfl
theorem dX10_findNearest_233 : decode cX10_findNearest 233 = .ok (.return_, 1) := dOf oX10_findNearest_2 10 rfl
def eX10_lacksFit_0 : List (Nat × Instr × Nat) := [(0, .aload_n 0, 1), (1, .iconst 1, 1), (2, .invokevirtual 169, 3), (5, .ifCond .ne 6, 3), (8, .bipush (-2), 2), (10, .ireturn, 1), (11, .aload_n 0, 1), (12, .invokevirtual 230, 3), (15, .aload_n 0, 1), (16, .getfield 216, 3), (19, .ifCond .ne 8, 3), (22, .bipush (-4), 2), (24, .goto 4, 3), (27, .iconst 0, 1), (28, .ireturn, 1)]
theorem oX10_lacksFit_0 : okC cX10_lacksFit eX10_lacksFit_0 = true := by decide +kernel
theorem dX10_lacksFit_0 : decode cX10_lacksFit 0 = .ok (.aload_n 0, 1) := dOf oX10_lacksFit_0 0 rfl
theorem dX10_lacksFit_1 : decode cX10_lacksFit 1 = .ok (.iconst 1, 1) := dOf oX10_lacksFit_0 1 rfl
theorem dX10_lacksFit_2 : decode cX10_lacksFit 2 = .ok (.invokevirtual 169, 3) := dOf oX10_lacksFit_0 2 rfl
theorem dX10_lacksFit_5 : decode cX10_lacksFit 5 = .ok (.ifCond .ne 6, 3) := dOf oX10_lacksFit_0 3 rfl
theorem dX10_lacksFit_8 : decode cX10_lacksFit 8 = .ok (.bipush (-2), 2) := dOf oX10_lacksFit_0 4 rfl
theorem dX10_lacksFit_10 : decode cX10_lacksFit 10 = .ok (.ireturn, 1) := dOf oX10_lacksFit_0 5 rfl
theorem dX10_lacksFit_11 : decode cX10_lacksFit 11 = .ok (.aload_n 0, 1) := dOf oX10_lacksFit_0 6 rfl
theorem dX10_lacksFit_12 : decode cX10_lacksFit 12 = .ok (.invokevirtual 230, 3) := dOf oX10_lacksFit_0 7 rfl
theorem dX10_lacksFit_15 : decode cX10_lacksFit 15 = .ok (.aload_n 0, 1) := dOf oX10_lacksFit_0 8 rfl
theorem dX10_lacksFit_16 : decode cX10_lacksFit 16 = .ok (.getfield 216, 3) := dOf oX10_lacksFit_0 9 rfl
theorem dX10_lacksFit_19 : decode cX10_lacksFit 19 = .ok (.ifCond .ne 8, 3) := dOf oX10_lacksFit_0 10 rfl
theorem dX10_lacksFit_22 : decode cX10_lacksFit 22 = .ok (.bipush (-4), 2) := dOf oX10_lacksFit_0 11 rfl
theorem dX10_lacksFit_24 : decode cX10_lacksFit 24 = .ok (.goto 4, 3) := dOf oX10_lacksFit_0 12 rfl
theorem dX10_lacksFit_27 : decode cX10_lacksFit 27 = .ok (.iconst 0, 1) := dOf oX10_lacksFit_0 13 rfl
theorem dX10_lacksFit_28 : decode cX10_lacksFit 28 = .ok (.ireturn, 1) := dOf oX10_lacksFit_0 14 rfl
def eX10_runRow_0 : List (Nat × Instr × Nat) := [(0, .aload_n 0, 1), (1, .iconst 0, 1), (2, .putfield 150, 3), (5, .iconst 1, 1), (6, .istore 4, 2), (8, .iconst 0, 1), (9, .istore 5, 2), (11, .iload 5, 2), (13, .iconst 3, 1), (14, .if_icmp .ge 36, 3), (17, .iload 4, 2), (19, .ifCond .eq 31, 3), (22, .aload_n 1, 1), (23, .iload_n 2, 1), (24, .iload 5, 2), (26, .iadd, 1), (27, .iaload, 1), (28, .ifCond .lt 22, 3), (31, .aload_n 0, 1), (32, .iload_n 3, 1), (33, .aload_n 1, 1), (34, .iload_n 2, 1), (35, .iload 5, 2), (37, .iadd, 1), (38, .iaload, 1), (39, .invokevirtual 158, 3), (42, .istore 4, 2), (44, .iinc 5 1, 3), (47, .goto (-36), 3), (50, .aload_n 0, 1), (51, .iload 4, 2), (53, .ifCond .eq 10, 3), (56, .aload_n 0, 1), (57, .getfield 150, 3), (60, .goto 4, 3), (63, .iconst 0, 1), (64, .putfield 150, 3), (67, .iload 4, 2), (69, .ireturn, 1)]
theorem oX10_runRow_0 : okC cX10_runRow eX10_runRow_0 = true := by decide +kernel
theorem dX10_runRow_0 : decode cX10_runRow 0 = .ok (.aload_n 0, 1) := dOf oX10_runRow_0 0 rfl
theorem dX10_runRow_1 : decode cX10_runRow 1 = .ok (.iconst 0, 1) := dOf oX10_runRow_0 1 rfl
theorem dX10_runRow_2 : decode cX10_runRow 2 = .ok (.putfield 150, 3) := dOf oX10_runRow_0 2 rfl
theorem dX10_runRow_5 : decode cX10_runRow 5 = .ok (.iconst 1, 1) := dOf oX10_runRow_0 3 rfl
theorem dX10_runRow_6 : decode cX10_runRow 6 = .ok (.istore 4, 2) := dOf oX10_runRow_0 4 rfl
theorem dX10_runRow_8 : decode cX10_runRow 8 = .ok (.iconst 0, 1) := dOf oX10_runRow_0 5 rfl
theorem dX10_runRow_9 : decode cX10_runRow 9 = .ok (.istore 5, 2) := dOf oX10_runRow_0 6 rfl
theorem dX10_runRow_11 : decode cX10_runRow 11 = .ok (.iload 5, 2) := dOf oX10_runRow_0 7 rfl
theorem dX10_runRow_13 : decode cX10_runRow 13 = .ok (.iconst 3, 1) := dOf oX10_runRow_0 8 rfl
theorem dX10_runRow_14 : decode cX10_runRow 14 = .ok (.if_icmp .ge 36, 3) := dOf oX10_runRow_0 9 rfl
theorem dX10_runRow_17 : decode cX10_runRow 17 = .ok (.iload 4, 2) := dOf oX10_runRow_0 10 rfl
theorem dX10_runRow_19 : decode cX10_runRow 19 = .ok (.ifCond .eq 31, 3) := dOf oX10_runRow_0 11 rfl
theorem dX10_runRow_22 : decode cX10_runRow 22 = .ok (.aload_n 1, 1) := dOf oX10_runRow_0 12 rfl
theorem dX10_runRow_23 : decode cX10_runRow 23 = .ok (.iload_n 2, 1) := dOf oX10_runRow_0 13 rfl
theorem dX10_runRow_24 : decode cX10_runRow 24 = .ok (.iload 5, 2) := dOf oX10_runRow_0 14 rfl
theorem dX10_runRow_26 : decode cX10_runRow 26 = .ok (.iadd, 1) := dOf oX10_runRow_0 15 rfl
theorem dX10_runRow_27 : decode cX10_runRow 27 = .ok (.iaload, 1) := dOf oX10_runRow_0 16 rfl
theorem dX10_runRow_28 : decode cX10_runRow 28 = .ok (.ifCond .lt 22, 3) := dOf oX10_runRow_0 17 rfl
theorem dX10_runRow_31 : decode cX10_runRow 31 = .ok (.aload_n 0, 1) := dOf oX10_runRow_0 18 rfl
theorem dX10_runRow_32 : decode cX10_runRow 32 = .ok (.iload_n 3, 1) := dOf oX10_runRow_0 19 rfl
theorem dX10_runRow_33 : decode cX10_runRow 33 = .ok (.aload_n 1, 1) := dOf oX10_runRow_0 20 rfl
theorem dX10_runRow_34 : decode cX10_runRow 34 = .ok (.iload_n 2, 1) := dOf oX10_runRow_0 21 rfl
theorem dX10_runRow_35 : decode cX10_runRow 35 = .ok (.iload 5, 2) := dOf oX10_runRow_0 22 rfl
theorem dX10_runRow_37 : decode cX10_runRow 37 = .ok (.iadd, 1) := dOf oX10_runRow_0 23 rfl
theorem dX10_runRow_38 : decode cX10_runRow 38 = .ok (.iaload, 1) := dOf oX10_runRow_0 24 rfl
theorem dX10_runRow_39 : decode cX10_runRow 39 = .ok (.invokevirtual 158, 3) := dOf oX10_runRow_0 25 rfl
theorem dX10_runRow_42 : decode cX10_runRow 42 = .ok (.istore 4, 2) := dOf oX10_runRow_0 26 rfl
theorem dX10_runRow_44 : decode cX10_runRow 44 = .ok (.iinc 5 1, 3) := dOf oX10_runRow_0 27 rfl
theorem dX10_runRow_47 : decode cX10_runRow 47 = .ok (.goto (-36), 3) := dOf oX10_runRow_0 28 rfl
theorem dX10_runRow_50 : decode cX10_runRow 50 = .ok (.aload_n 0, 1) := dOf oX10_runRow_0 29 rfl
theorem dX10_runRow_51 : decode cX10_runRow 51 = .ok (.iload 4, 2) := dOf oX10_runRow_0 30 rfl
theorem dX10_runRow_53 : decode cX10_runRow 53 = .ok (.ifCond .eq 10, 3) := dOf oX10_runRow_0 31 rfl
theorem dX10_runRow_56 : decode cX10_runRow 56 = .ok (.aload_n 0, 1) := dOf oX10_runRow_0 32 rfl
theorem dX10_runRow_57 : decode cX10_runRow 57 = .ok (.getfield 150, 3) := dOf oX10_runRow_0 33 rfl
theorem dX10_runRow_60 : decode cX10_runRow 60 = .ok (.goto 4, 3) := dOf oX10_runRow_0 34 rfl
theorem dX10_runRow_63 : decode cX10_runRow 63 = .ok (.iconst 0, 1) := dOf oX10_runRow_0 35 rfl
theorem dX10_runRow_64 : decode cX10_runRow 64 = .ok (.putfield 150, 3) := dOf oX10_runRow_0 36 rfl
theorem dX10_runRow_67 : decode cX10_runRow 67 = .ok (.iload 4, 2) := dOf oX10_runRow_0 37 rfl
theorem dX10_runRow_69 : decode cX10_runRow 69 = .ok (.ireturn, 1) := dOf oX10_runRow_0 38 rfl
def eX10_toldOf_0 : List (Nat × Instr × Nat) := [(0, .iconst 0, 1), (1, .istore_n 3, 1), (2, .iconst 0, 1), (3, .istore 4, 2), (5, .iconst 0, 1), (6, .istore 5, 2), (8, .iload 5, 2), (10, .iconst 3, 1), (11, .if_icmp .ge 53, 3), (14, .iload_n 3, 1), (15, .aload_n 0, 1), (16, .iload_n 1, 1), (17, .iload 5, 2), (19, .iadd, 1), (20, .iaload, 1), (21, .ifCond .ge 7, 3), (24, .iconst 0, 1), (25, .goto 12, 3), (28, .aload_n 0, 1), (29, .iload_n 1, 1), (30, .iload 5, 2), (32, .iadd, 1), (33, .iaload, 1), (34, .invokestatic 219, 3), (37, .iadd, 1), (38, .istore_n 3, 1), (39, .iload 4, 2), (41, .aload_n 0, 1), (42, .iload_n 1, 1), (43, .iload 5, 2), (45, .iadd, 1), (46, .iaload, 1), (47, .ifCond .ge 7, 3), (50, .iconst 0, 1), (51, .goto 4, 3), (54, .iconst 1, 1), (55, .iadd, 1), (56, .istore 4, 2), (58, .iinc 5 1, 3), (61, .goto (-53), 3), (64, .iload_n 2, 1), (65, .ifCond .ne 7, 3), (68, .iload_n 3, 1), (69, .goto 32, 3), (72, .iload_n 2, 1), (73, .iconst 1, 1), (74, .if_icmp .ne 8, 3), (77, .iload 4, 2), (79, .goto 22, 3), (82, .iload_n 2, 1), (83, .iconst 2, 1), (84, .isub, 1), (85, .iload 4, 2), (87, .if_icmp .ge 13, 3), (90, .aload_n 0, 1), (91, .iload_n 1, 1), (92, .iload_n 2, 1), (93, .iadd, 1), (94, .iconst 2, 1), (95, .isub, 1)]
theorem oX10_toldOf_0 : okC cX10_toldOf eX10_toldOf_0 = true := by decide +kernel
theorem dX10_toldOf_0 : decode cX10_toldOf 0 = .ok (.iconst 0, 1) := dOf oX10_toldOf_0 0 rfl
theorem dX10_toldOf_1 : decode cX10_toldOf 1 = .ok (.istore_n 3, 1) := dOf oX10_toldOf_0 1 rfl
theorem dX10_toldOf_2 : decode cX10_toldOf 2 = .ok (.iconst 0, 1) := dOf oX10_toldOf_0 2 rfl
theorem dX10_toldOf_3 : decode cX10_toldOf 3 = .ok (.istore 4, 2) := dOf oX10_toldOf_0 3 rfl
theorem dX10_toldOf_5 : decode cX10_toldOf 5 = .ok (.iconst 0, 1) := dOf oX10_toldOf_0 4 rfl
theorem dX10_toldOf_6 : decode cX10_toldOf 6 = .ok (.istore 5, 2) := dOf oX10_toldOf_0 5 rfl
theorem dX10_toldOf_8 : decode cX10_toldOf 8 = .ok (.iload 5, 2) := dOf oX10_toldOf_0 6 rfl
theorem dX10_toldOf_10 : decode cX10_toldOf 10 = .ok (.iconst 3, 1) := dOf oX10_toldOf_0 7 rfl
theorem dX10_toldOf_11 : decode cX10_toldOf 11 = .ok (.if_icmp .ge 53, 3) := dOf oX10_toldOf_0 8 rfl
theorem dX10_toldOf_14 : decode cX10_toldOf 14 = .ok (.iload_n 3, 1) := dOf oX10_toldOf_0 9 rfl
theorem dX10_toldOf_15 : decode cX10_toldOf 15 = .ok (.aload_n 0, 1) := dOf oX10_toldOf_0 10 rfl
theorem dX10_toldOf_16 : decode cX10_toldOf 16 = .ok (.iload_n 1, 1) := dOf oX10_toldOf_0 11 rfl
theorem dX10_toldOf_17 : decode cX10_toldOf 17 = .ok (.iload 5, 2) := dOf oX10_toldOf_0 12 rfl
theorem dX10_toldOf_19 : decode cX10_toldOf 19 = .ok (.iadd, 1) := dOf oX10_toldOf_0 13 rfl
theorem dX10_toldOf_20 : decode cX10_toldOf 20 = .ok (.iaload, 1) := dOf oX10_toldOf_0 14 rfl
theorem dX10_toldOf_21 : decode cX10_toldOf 21 = .ok (.ifCond .ge 7, 3) := dOf oX10_toldOf_0 15 rfl
theorem dX10_toldOf_24 : decode cX10_toldOf 24 = .ok (.iconst 0, 1) := dOf oX10_toldOf_0 16 rfl
theorem dX10_toldOf_25 : decode cX10_toldOf 25 = .ok (.goto 12, 3) := dOf oX10_toldOf_0 17 rfl
theorem dX10_toldOf_28 : decode cX10_toldOf 28 = .ok (.aload_n 0, 1) := dOf oX10_toldOf_0 18 rfl
theorem dX10_toldOf_29 : decode cX10_toldOf 29 = .ok (.iload_n 1, 1) := dOf oX10_toldOf_0 19 rfl
theorem dX10_toldOf_30 : decode cX10_toldOf 30 = .ok (.iload 5, 2) := dOf oX10_toldOf_0 20 rfl
theorem dX10_toldOf_32 : decode cX10_toldOf 32 = .ok (.iadd, 1) := dOf oX10_toldOf_0 21 rfl
theorem dX10_toldOf_33 : decode cX10_toldOf 33 = .ok (.iaload, 1) := dOf oX10_toldOf_0 22 rfl
theorem dX10_toldOf_34 : decode cX10_toldOf 34 = .ok (.invokestatic 219, 3) := dOf oX10_toldOf_0 23 rfl
theorem dX10_toldOf_37 : decode cX10_toldOf 37 = .ok (.iadd, 1) := dOf oX10_toldOf_0 24 rfl
theorem dX10_toldOf_38 : decode cX10_toldOf 38 = .ok (.istore_n 3, 1) := dOf oX10_toldOf_0 25 rfl
theorem dX10_toldOf_39 : decode cX10_toldOf 39 = .ok (.iload 4, 2) := dOf oX10_toldOf_0 26 rfl
theorem dX10_toldOf_41 : decode cX10_toldOf 41 = .ok (.aload_n 0, 1) := dOf oX10_toldOf_0 27 rfl
theorem dX10_toldOf_42 : decode cX10_toldOf 42 = .ok (.iload_n 1, 1) := dOf oX10_toldOf_0 28 rfl
theorem dX10_toldOf_43 : decode cX10_toldOf 43 = .ok (.iload 5, 2) := dOf oX10_toldOf_0 29 rfl
theorem dX10_toldOf_45 : decode cX10_toldOf 45 = .ok (.iadd, 1) := dOf oX10_toldOf_0 30 rfl
theorem dX10_toldOf_46 : decode cX10_toldOf 46 = .ok (.iaload, 1) := dOf oX10_toldOf_0 31 rfl
theorem dX10_toldOf_47 : decode cX10_toldOf 47 = .ok (.ifCond .ge 7, 3) := dOf oX10_toldOf_0 32 rfl
theorem dX10_toldOf_50 : decode cX10_toldOf 50 = .ok (.iconst 0, 1) := dOf oX10_toldOf_0 33 rfl
theorem dX10_toldOf_51 : decode cX10_toldOf 51 = .ok (.goto 4, 3) := dOf oX10_toldOf_0 34 rfl
theorem dX10_toldOf_54 : decode cX10_toldOf 54 = .ok (.iconst 1, 1) := dOf oX10_toldOf_0 35 rfl
theorem dX10_toldOf_55 : decode cX10_toldOf 55 = .ok (.iadd, 1) := dOf oX10_toldOf_0 36 rfl
theorem dX10_toldOf_56 : decode cX10_toldOf 56 = .ok (.istore 4, 2) := dOf oX10_toldOf_0 37 rfl
theorem dX10_toldOf_58 : decode cX10_toldOf 58 = .ok (.iinc 5 1, 3) := dOf oX10_toldOf_0 38 rfl
theorem dX10_toldOf_61 : decode cX10_toldOf 61 = .ok (.goto (-53), 3) := dOf oX10_toldOf_0 39 rfl
theorem dX10_toldOf_64 : decode cX10_toldOf 64 = .ok (.iload_n 2, 1) := dOf oX10_toldOf_0 40 rfl
theorem dX10_toldOf_65 : decode cX10_toldOf 65 = .ok (.ifCond .ne 7, 3) := dOf oX10_toldOf_0 41 rfl
theorem dX10_toldOf_68 : decode cX10_toldOf 68 = .ok (.iload_n 3, 1) := dOf oX10_toldOf_0 42 rfl
theorem dX10_toldOf_69 : decode cX10_toldOf 69 = .ok (.goto 32, 3) := dOf oX10_toldOf_0 43 rfl
theorem dX10_toldOf_72 : decode cX10_toldOf 72 = .ok (.iload_n 2, 1) := dOf oX10_toldOf_0 44 rfl
theorem dX10_toldOf_73 : decode cX10_toldOf 73 = .ok (.iconst 1, 1) := dOf oX10_toldOf_0 45 rfl
theorem dX10_toldOf_74 : decode cX10_toldOf 74 = .ok (.if_icmp .ne 8, 3) := dOf oX10_toldOf_0 46 rfl
theorem dX10_toldOf_77 : decode cX10_toldOf 77 = .ok (.iload 4, 2) := dOf oX10_toldOf_0 47 rfl
theorem dX10_toldOf_79 : decode cX10_toldOf 79 = .ok (.goto 22, 3) := dOf oX10_toldOf_0 48 rfl
theorem dX10_toldOf_82 : decode cX10_toldOf 82 = .ok (.iload_n 2, 1) := dOf oX10_toldOf_0 49 rfl
theorem dX10_toldOf_83 : decode cX10_toldOf 83 = .ok (.iconst 2, 1) := dOf oX10_toldOf_0 50 rfl
theorem dX10_toldOf_84 : decode cX10_toldOf 84 = .ok (.isub, 1) := dOf oX10_toldOf_0 51 rfl
theorem dX10_toldOf_85 : decode cX10_toldOf 85 = .ok (.iload 4, 2) := dOf oX10_toldOf_0 52 rfl
theorem dX10_toldOf_87 : decode cX10_toldOf 87 = .ok (.if_icmp .ge 13, 3) := dOf oX10_toldOf_0 53 rfl
theorem dX10_toldOf_90 : decode cX10_toldOf 90 = .ok (.aload_n 0, 1) := dOf oX10_toldOf_0 54 rfl
theorem dX10_toldOf_91 : decode cX10_toldOf 91 = .ok (.iload_n 1, 1) := dOf oX10_toldOf_0 55 rfl
theorem dX10_toldOf_92 : decode cX10_toldOf 92 = .ok (.iload_n 2, 1) := dOf oX10_toldOf_0 56 rfl
theorem dX10_toldOf_93 : decode cX10_toldOf 93 = .ok (.iadd, 1) := dOf oX10_toldOf_0 57 rfl
theorem dX10_toldOf_94 : decode cX10_toldOf 94 = .ok (.iconst 2, 1) := dOf oX10_toldOf_0 58 rfl
theorem dX10_toldOf_95 : decode cX10_toldOf 95 = .ok (.isub, 1) := dOf oX10_toldOf_0 59 rfl
def eX10_toldOf_1 : List (Nat × Instr × Nat) := [(96, .iaload, 1), (97, .goto 4, 3), (100, .iconst (-1), 1), (101, .ireturn, 1)]
theorem oX10_toldOf_1 : okC cX10_toldOf eX10_toldOf_1 = true := by decide +kernel
theorem dX10_toldOf_96 : decode cX10_toldOf 96 = .ok (.iaload, 1) := dOf oX10_toldOf_1 0 rfl
theorem dX10_toldOf_97 : decode cX10_toldOf 97 = .ok (.goto 4, 3) := dOf oX10_toldOf_1 1 rfl
theorem dX10_toldOf_100 : decode cX10_toldOf 100 = .ok (.iconst (-1), 1) := dOf oX10_toldOf_1 2 rfl
theorem dX10_toldOf_101 : decode cX10_toldOf 101 = .ok (.ireturn, 1) := dOf oX10_toldOf_1 3 rfl
def eX10_shortest_0 : List (Nat × Instr × Nat) := [(0, .iload_n 1, 1), (1, .i2l, 1), (2, .lconst 0, 1), (3, .ldc2_w 233, 3), (6, .invokestatic 84, 3), (9, .ifCond .ne 5, 3), (12, .iconst (-1), 1), (13, .ireturn, 1), (14, .aload_n 0, 1), (15, .invokevirtual 235, 3), (18, .istore_n 2, 1), (19, .iload_n 2, 1), (20, .ifCond .ge 7, 3), (23, .iload_n 2, 1), (24, .goto 12, 3), (27, .aload_n 0, 1), (28, .getfield 53, 3), (31, .iconst 0, 1), (32, .iload_n 1, 1), (33, .invokestatic 239, 3), (36, .ireturn, 1)]
theorem oX10_shortest_0 : okC cX10_shortest eX10_shortest_0 = true := by decide +kernel
theorem dX10_shortest_0 : decode cX10_shortest 0 = .ok (.iload_n 1, 1) := dOf oX10_shortest_0 0 rfl
theorem dX10_shortest_1 : decode cX10_shortest 1 = .ok (.i2l, 1) := dOf oX10_shortest_0 1 rfl
theorem dX10_shortest_2 : decode cX10_shortest 2 = .ok (.lconst 0, 1) := dOf oX10_shortest_0 2 rfl
theorem dX10_shortest_3 : decode cX10_shortest 3 = .ok (.ldc2_w 233, 3) := dOf oX10_shortest_0 3 rfl
theorem dX10_shortest_6 : decode cX10_shortest 6 = .ok (.invokestatic 84, 3) := dOf oX10_shortest_0 4 rfl
theorem dX10_shortest_9 : decode cX10_shortest 9 = .ok (.ifCond .ne 5, 3) := dOf oX10_shortest_0 5 rfl
theorem dX10_shortest_12 : decode cX10_shortest 12 = .ok (.iconst (-1), 1) := dOf oX10_shortest_0 6 rfl
theorem dX10_shortest_13 : decode cX10_shortest 13 = .ok (.ireturn, 1) := dOf oX10_shortest_0 7 rfl
theorem dX10_shortest_14 : decode cX10_shortest 14 = .ok (.aload_n 0, 1) := dOf oX10_shortest_0 8 rfl
theorem dX10_shortest_15 : decode cX10_shortest 15 = .ok (.invokevirtual 235, 3) := dOf oX10_shortest_0 9 rfl
theorem dX10_shortest_18 : decode cX10_shortest 18 = .ok (.istore_n 2, 1) := dOf oX10_shortest_0 10 rfl
theorem dX10_shortest_19 : decode cX10_shortest 19 = .ok (.iload_n 2, 1) := dOf oX10_shortest_0 11 rfl
theorem dX10_shortest_20 : decode cX10_shortest 20 = .ok (.ifCond .ge 7, 3) := dOf oX10_shortest_0 12 rfl
theorem dX10_shortest_23 : decode cX10_shortest 23 = .ok (.iload_n 2, 1) := dOf oX10_shortest_0 13 rfl
theorem dX10_shortest_24 : decode cX10_shortest 24 = .ok (.goto 12, 3) := dOf oX10_shortest_0 14 rfl
theorem dX10_shortest_27 : decode cX10_shortest 27 = .ok (.aload_n 0, 1) := dOf oX10_shortest_0 15 rfl
theorem dX10_shortest_28 : decode cX10_shortest 28 = .ok (.getfield 53, 3) := dOf oX10_shortest_0 16 rfl
theorem dX10_shortest_31 : decode cX10_shortest 31 = .ok (.iconst 0, 1) := dOf oX10_shortest_0 17 rfl
theorem dX10_shortest_32 : decode cX10_shortest 32 = .ok (.iload_n 1, 1) := dOf oX10_shortest_0 18 rfl
theorem dX10_shortest_33 : decode cX10_shortest 33 = .ok (.invokestatic 239, 3) := dOf oX10_shortest_0 19 rfl
theorem dX10_shortest_36 : decode cX10_shortest 36 = .ok (.ireturn, 1) := dOf oX10_shortest_0 20 rfl
def eX10_paper_0 : List (Nat × Instr × Nat) := [(0, .aload_n 0, 1), (1, .iload_n 1, 1), (2, .invokevirtual 105, 3), (5, .ifCond .eq 8, 3), (8, .iload_n 2, 1), (9, .iconst (-1), 1), (10, .if_icmp .ge 5, 3), (13, .iconst (-1), 1), (14, .ireturn, 1), (15, .aload_n 0, 1), (16, .invokevirtual 235, 3), (19, .istore_n 3, 1), (20, .iload_n 3, 1), (21, .ifCond .ge 5, 3), (24, .iload_n 3, 1), (25, .ireturn, 1), (26, .aload_n 0, 1), (27, .aload_n 0, 1), (28, .getfield 53, 3), (31, .iconst 0, 1), (32, .iload_n 1, 1), (33, .invokevirtual 243, 3), (36, .ifCond .eq 11, 3), (39, .aload_n 0, 1), (40, .iload_n 2, 1), (41, .invokevirtual 161, 3), (44, .goto 5, 3), (47, .bipush (-4), 2), (49, .ireturn, 1)]
theorem oX10_paper_0 : okC cX10_paper eX10_paper_0 = true := by decide +kernel
theorem dX10_paper_0 : decode cX10_paper 0 = .ok (.aload_n 0, 1) := dOf oX10_paper_0 0 rfl
theorem dX10_paper_1 : decode cX10_paper 1 = .ok (.iload_n 1, 1) := dOf oX10_paper_0 1 rfl
theorem dX10_paper_2 : decode cX10_paper 2 = .ok (.invokevirtual 105, 3) := dOf oX10_paper_0 2 rfl
theorem dX10_paper_5 : decode cX10_paper 5 = .ok (.ifCond .eq 8, 3) := dOf oX10_paper_0 3 rfl
theorem dX10_paper_8 : decode cX10_paper 8 = .ok (.iload_n 2, 1) := dOf oX10_paper_0 4 rfl
theorem dX10_paper_9 : decode cX10_paper 9 = .ok (.iconst (-1), 1) := dOf oX10_paper_0 5 rfl
theorem dX10_paper_10 : decode cX10_paper 10 = .ok (.if_icmp .ge 5, 3) := dOf oX10_paper_0 6 rfl
theorem dX10_paper_13 : decode cX10_paper 13 = .ok (.iconst (-1), 1) := dOf oX10_paper_0 7 rfl
theorem dX10_paper_14 : decode cX10_paper 14 = .ok (.ireturn, 1) := dOf oX10_paper_0 8 rfl
theorem dX10_paper_15 : decode cX10_paper 15 = .ok (.aload_n 0, 1) := dOf oX10_paper_0 9 rfl
theorem dX10_paper_16 : decode cX10_paper 16 = .ok (.invokevirtual 235, 3) := dOf oX10_paper_0 10 rfl
theorem dX10_paper_19 : decode cX10_paper 19 = .ok (.istore_n 3, 1) := dOf oX10_paper_0 11 rfl
theorem dX10_paper_20 : decode cX10_paper 20 = .ok (.iload_n 3, 1) := dOf oX10_paper_0 12 rfl
theorem dX10_paper_21 : decode cX10_paper 21 = .ok (.ifCond .ge 5, 3) := dOf oX10_paper_0 13 rfl
theorem dX10_paper_24 : decode cX10_paper 24 = .ok (.iload_n 3, 1) := dOf oX10_paper_0 14 rfl
theorem dX10_paper_25 : decode cX10_paper 25 = .ok (.ireturn, 1) := dOf oX10_paper_0 15 rfl
theorem dX10_paper_26 : decode cX10_paper 26 = .ok (.aload_n 0, 1) := dOf oX10_paper_0 16 rfl
theorem dX10_paper_27 : decode cX10_paper 27 = .ok (.aload_n 0, 1) := dOf oX10_paper_0 17 rfl
theorem dX10_paper_28 : decode cX10_paper 28 = .ok (.getfield 53, 3) := dOf oX10_paper_0 18 rfl
theorem dX10_paper_31 : decode cX10_paper 31 = .ok (.iconst 0, 1) := dOf oX10_paper_0 19 rfl
theorem dX10_paper_32 : decode cX10_paper 32 = .ok (.iload_n 1, 1) := dOf oX10_paper_0 20 rfl
theorem dX10_paper_33 : decode cX10_paper 33 = .ok (.invokevirtual 243, 3) := dOf oX10_paper_0 21 rfl
theorem dX10_paper_36 : decode cX10_paper 36 = .ok (.ifCond .eq 11, 3) := dOf oX10_paper_0 22 rfl
theorem dX10_paper_39 : decode cX10_paper 39 = .ok (.aload_n 0, 1) := dOf oX10_paper_0 23 rfl
theorem dX10_paper_40 : decode cX10_paper 40 = .ok (.iload_n 2, 1) := dOf oX10_paper_0 24 rfl
theorem dX10_paper_41 : decode cX10_paper 41 = .ok (.invokevirtual 161, 3) := dOf oX10_paper_0 25 rfl
theorem dX10_paper_44 : decode cX10_paper 44 = .ok (.goto 5, 3) := dOf oX10_paper_0 26 rfl
theorem dX10_paper_47 : decode cX10_paper 47 = .ok (.bipush (-4), 2) := dOf oX10_paper_0 27 rfl
theorem dX10_paper_49 : decode cX10_paper 49 = .ok (.ireturn, 1) := dOf oX10_paper_0 28 rfl
def eX10_findEnds_0 : List (Nat × Instr × Nat) := [(0, .iconst 0, 1), (1, .istore_n 2, 1), (2, .iload_n 2, 1), (3, .aload_n 0, 1), (4, .getfield 216, 3), (7, .if_icmp .ge 65, 3), (10, .aload_n 0, 1), (11, .aload_n 0, 1), (12, .getfield 53, 3), (15, .iconst 3, 1), (16, .iload_n 2, 1), (17, .imul, 1), (18, .iload_n 1, 1), (19, .invokevirtual 243, 3), (22, .pop, 1), (23, .aload_n 0, 1), (24, .getfield 59, 3), (27, .iload_n 2, 1), (28, .aload_n 0, 1), (29, .getfield 150, 3), (32, .iastore, 1), (33, .iconst 0, 1), (34, .istore_n 3, 1), (35, .iload_n 3, 1), (36, .aload_n 0, 1), (37, .getfield 150, 3), (40, .if_icmp .ge 26, 3), (43, .aload_n 0, 1), (44, .getfield 56, 3), (47, .bipush 36, 2), (49, .iload_n 2, 1), (50, .imul, 1), (51, .iload_n 3, 1), (52, .iadd, 1), (53, .aload_n 0, 1), (54, .getfield 31, 3), (57, .iload_n 3, 1), (58, .iaload, 1), (59, .iastore, 1), (60, .iinc 3 1, 3), (63, .goto (-28), 3), (66, .iinc 2 1, 3), (69, .goto (-67), 3), (72, .return_, 1)]
theorem oX10_findEnds_0 : okC cX10_findEnds eX10_findEnds_0 = true := by decide +kernel
theorem dX10_findEnds_0 : decode cX10_findEnds 0 = .ok (.iconst 0, 1) := dOf oX10_findEnds_0 0 rfl
theorem dX10_findEnds_1 : decode cX10_findEnds 1 = .ok (.istore_n 2, 1) := dOf oX10_findEnds_0 1 rfl
theorem dX10_findEnds_2 : decode cX10_findEnds 2 = .ok (.iload_n 2, 1) := dOf oX10_findEnds_0 2 rfl
theorem dX10_findEnds_3 : decode cX10_findEnds 3 = .ok (.aload_n 0, 1) := dOf oX10_findEnds_0 3 rfl
theorem dX10_findEnds_4 : decode cX10_findEnds 4 = .ok (.getfield 216, 3) := dOf oX10_findEnds_0 4 rfl
theorem dX10_findEnds_7 : decode cX10_findEnds 7 = .ok (.if_icmp .ge 65, 3) := dOf oX10_findEnds_0 5 rfl
theorem dX10_findEnds_10 : decode cX10_findEnds 10 = .ok (.aload_n 0, 1) := dOf oX10_findEnds_0 6 rfl
theorem dX10_findEnds_11 : decode cX10_findEnds 11 = .ok (.aload_n 0, 1) := dOf oX10_findEnds_0 7 rfl
theorem dX10_findEnds_12 : decode cX10_findEnds 12 = .ok (.getfield 53, 3) := dOf oX10_findEnds_0 8 rfl
theorem dX10_findEnds_15 : decode cX10_findEnds 15 = .ok (.iconst 3, 1) := dOf oX10_findEnds_0 9 rfl
theorem dX10_findEnds_16 : decode cX10_findEnds 16 = .ok (.iload_n 2, 1) := dOf oX10_findEnds_0 10 rfl
theorem dX10_findEnds_17 : decode cX10_findEnds 17 = .ok (.imul, 1) := dOf oX10_findEnds_0 11 rfl
theorem dX10_findEnds_18 : decode cX10_findEnds 18 = .ok (.iload_n 1, 1) := dOf oX10_findEnds_0 12 rfl
theorem dX10_findEnds_19 : decode cX10_findEnds 19 = .ok (.invokevirtual 243, 3) := dOf oX10_findEnds_0 13 rfl
theorem dX10_findEnds_22 : decode cX10_findEnds 22 = .ok (.pop, 1) := dOf oX10_findEnds_0 14 rfl
theorem dX10_findEnds_23 : decode cX10_findEnds 23 = .ok (.aload_n 0, 1) := dOf oX10_findEnds_0 15 rfl
theorem dX10_findEnds_24 : decode cX10_findEnds 24 = .ok (.getfield 59, 3) := dOf oX10_findEnds_0 16 rfl
theorem dX10_findEnds_27 : decode cX10_findEnds 27 = .ok (.iload_n 2, 1) := dOf oX10_findEnds_0 17 rfl
theorem dX10_findEnds_28 : decode cX10_findEnds 28 = .ok (.aload_n 0, 1) := dOf oX10_findEnds_0 18 rfl
theorem dX10_findEnds_29 : decode cX10_findEnds 29 = .ok (.getfield 150, 3) := dOf oX10_findEnds_0 19 rfl
theorem dX10_findEnds_32 : decode cX10_findEnds 32 = .ok (.iastore, 1) := dOf oX10_findEnds_0 20 rfl
theorem dX10_findEnds_33 : decode cX10_findEnds 33 = .ok (.iconst 0, 1) := dOf oX10_findEnds_0 21 rfl
theorem dX10_findEnds_34 : decode cX10_findEnds 34 = .ok (.istore_n 3, 1) := dOf oX10_findEnds_0 22 rfl
theorem dX10_findEnds_35 : decode cX10_findEnds 35 = .ok (.iload_n 3, 1) := dOf oX10_findEnds_0 23 rfl
theorem dX10_findEnds_36 : decode cX10_findEnds 36 = .ok (.aload_n 0, 1) := dOf oX10_findEnds_0 24 rfl
theorem dX10_findEnds_37 : decode cX10_findEnds 37 = .ok (.getfield 150, 3) := dOf oX10_findEnds_0 25 rfl
theorem dX10_findEnds_40 : decode cX10_findEnds 40 = .ok (.if_icmp .ge 26, 3) := dOf oX10_findEnds_0 26 rfl
theorem dX10_findEnds_43 : decode cX10_findEnds 43 = .ok (.aload_n 0, 1) := dOf oX10_findEnds_0 27 rfl
theorem dX10_findEnds_44 : decode cX10_findEnds 44 = .ok (.getfield 56, 3) := dOf oX10_findEnds_0 28 rfl
theorem dX10_findEnds_47 : decode cX10_findEnds 47 = .ok (.bipush 36, 2) := dOf oX10_findEnds_0 29 rfl
theorem dX10_findEnds_49 : decode cX10_findEnds 49 = .ok (.iload_n 2, 1) := dOf oX10_findEnds_0 30 rfl
theorem dX10_findEnds_50 : decode cX10_findEnds 50 = .ok (.imul, 1) := dOf oX10_findEnds_0 31 rfl
theorem dX10_findEnds_51 : decode cX10_findEnds 51 = .ok (.iload_n 3, 1) := dOf oX10_findEnds_0 32 rfl
theorem dX10_findEnds_52 : decode cX10_findEnds 52 = .ok (.iadd, 1) := dOf oX10_findEnds_0 33 rfl
theorem dX10_findEnds_53 : decode cX10_findEnds 53 = .ok (.aload_n 0, 1) := dOf oX10_findEnds_0 34 rfl
theorem dX10_findEnds_54 : decode cX10_findEnds 54 = .ok (.getfield 31, 3) := dOf oX10_findEnds_0 35 rfl
theorem dX10_findEnds_57 : decode cX10_findEnds 57 = .ok (.iload_n 3, 1) := dOf oX10_findEnds_0 36 rfl
theorem dX10_findEnds_58 : decode cX10_findEnds 58 = .ok (.iaload, 1) := dOf oX10_findEnds_0 37 rfl
theorem dX10_findEnds_59 : decode cX10_findEnds 59 = .ok (.iastore, 1) := dOf oX10_findEnds_0 38 rfl
theorem dX10_findEnds_60 : decode cX10_findEnds 60 = .ok (.iinc 3 1, 3) := dOf oX10_findEnds_0 39 rfl
theorem dX10_findEnds_63 : decode cX10_findEnds 63 = .ok (.goto (-28), 3) := dOf oX10_findEnds_0 40 rfl
theorem dX10_findEnds_66 : decode cX10_findEnds 66 = .ok (.iinc 2 1, 3) := dOf oX10_findEnds_0 41 rfl
theorem dX10_findEnds_69 : decode cX10_findEnds 69 = .ok (.goto (-67), 3) := dOf oX10_findEnds_0 42 rfl
theorem dX10_findEnds_72 : decode cX10_findEnds 72 = .ok (.return_, 1) := dOf oX10_findEnds_0 43 rfl
def eX10_areAlike_0 : List (Nat × Instr × Nat) := [(0, .aload_n 0, 1), (1, .getfield 59, 3), (4, .iload_n 1, 1), (5, .iaload, 1), (6, .aload_n 0, 1), (7, .getfield 59, 3), (10, .iload_n 2, 1), (11, .iaload, 1), (12, .if_icmp .ne 7, 3), (15, .iconst 1, 1), (16, .goto 4, 3), (19, .iconst 0, 1), (20, .istore_n 3, 1), (21, .iconst 0, 1), (22, .istore 4, 2), (24, .iload 4, 2), (26, .aload_n 0, 1), (27, .getfield 59, 3), (30, .iload_n 1, 1), (31, .iaload, 1), (32, .if_icmp .ge 46, 3), (35, .iload_n 3, 1), (36, .ifCond .eq 42, 3), (39, .aload_n 0, 1), (40, .getfield 56, 3), (43, .bipush 36, 2), (45, .iload_n 1, 1), (46, .imul, 1), (47, .iload 4, 2), (49, .iadd, 1), (50, .iaload, 1), (51, .aload_n 0, 1), (52, .getfield 56, 3), (55, .bipush 36, 2), (57, .iload_n 2, 1), (58, .imul, 1), (59, .iload 4, 2), (61, .iadd, 1), (62, .iaload, 1), (63, .if_icmp .ne 7, 3), (66, .iconst 1, 1), (67, .goto 4, 3), (70, .iconst 0, 1), (71, .istore_n 3, 1), (72, .iinc 4 1, 3), (75, .goto (-51), 3), (78, .iload_n 3, 1), (79, .ireturn, 1)]
theorem oX10_areAlike_0 : okC cX10_areAlike eX10_areAlike_0 = true := by decide +kernel
theorem dX10_areAlike_0 : decode cX10_areAlike 0 = .ok (.aload_n 0, 1) := dOf oX10_areAlike_0 0 rfl
theorem dX10_areAlike_1 : decode cX10_areAlike 1 = .ok (.getfield 59, 3) := dOf oX10_areAlike_0 1 rfl
theorem dX10_areAlike_4 : decode cX10_areAlike 4 = .ok (.iload_n 1, 1) := dOf oX10_areAlike_0 2 rfl
theorem dX10_areAlike_5 : decode cX10_areAlike 5 = .ok (.iaload, 1) := dOf oX10_areAlike_0 3 rfl
theorem dX10_areAlike_6 : decode cX10_areAlike 6 = .ok (.aload_n 0, 1) := dOf oX10_areAlike_0 4 rfl
theorem dX10_areAlike_7 : decode cX10_areAlike 7 = .ok (.getfield 59, 3) := dOf oX10_areAlike_0 5 rfl
theorem dX10_areAlike_10 : decode cX10_areAlike 10 = .ok (.iload_n 2, 1) := dOf oX10_areAlike_0 6 rfl
theorem dX10_areAlike_11 : decode cX10_areAlike 11 = .ok (.iaload, 1) := dOf oX10_areAlike_0 7 rfl
theorem dX10_areAlike_12 : decode cX10_areAlike 12 = .ok (.if_icmp .ne 7, 3) := dOf oX10_areAlike_0 8 rfl
theorem dX10_areAlike_15 : decode cX10_areAlike 15 = .ok (.iconst 1, 1) := dOf oX10_areAlike_0 9 rfl
theorem dX10_areAlike_16 : decode cX10_areAlike 16 = .ok (.goto 4, 3) := dOf oX10_areAlike_0 10 rfl
theorem dX10_areAlike_19 : decode cX10_areAlike 19 = .ok (.iconst 0, 1) := dOf oX10_areAlike_0 11 rfl
theorem dX10_areAlike_20 : decode cX10_areAlike 20 = .ok (.istore_n 3, 1) := dOf oX10_areAlike_0 12 rfl
theorem dX10_areAlike_21 : decode cX10_areAlike 21 = .ok (.iconst 0, 1) := dOf oX10_areAlike_0 13 rfl
theorem dX10_areAlike_22 : decode cX10_areAlike 22 = .ok (.istore 4, 2) := dOf oX10_areAlike_0 14 rfl
theorem dX10_areAlike_24 : decode cX10_areAlike 24 = .ok (.iload 4, 2) := dOf oX10_areAlike_0 15 rfl
theorem dX10_areAlike_26 : decode cX10_areAlike 26 = .ok (.aload_n 0, 1) := dOf oX10_areAlike_0 16 rfl
theorem dX10_areAlike_27 : decode cX10_areAlike 27 = .ok (.getfield 59, 3) := dOf oX10_areAlike_0 17 rfl
theorem dX10_areAlike_30 : decode cX10_areAlike 30 = .ok (.iload_n 1, 1) := dOf oX10_areAlike_0 18 rfl
theorem dX10_areAlike_31 : decode cX10_areAlike 31 = .ok (.iaload, 1) := dOf oX10_areAlike_0 19 rfl
theorem dX10_areAlike_32 : decode cX10_areAlike 32 = .ok (.if_icmp .ge 46, 3) := dOf oX10_areAlike_0 20 rfl
theorem dX10_areAlike_35 : decode cX10_areAlike 35 = .ok (.iload_n 3, 1) := dOf oX10_areAlike_0 21 rfl
theorem dX10_areAlike_36 : decode cX10_areAlike 36 = .ok (.ifCond .eq 42, 3) := dOf oX10_areAlike_0 22 rfl
theorem dX10_areAlike_39 : decode cX10_areAlike 39 = .ok (.aload_n 0, 1) := dOf oX10_areAlike_0 23 rfl
theorem dX10_areAlike_40 : decode cX10_areAlike 40 = .ok (.getfield 56, 3) := dOf oX10_areAlike_0 24 rfl
theorem dX10_areAlike_43 : decode cX10_areAlike 43 = .ok (.bipush 36, 2) := dOf oX10_areAlike_0 25 rfl
theorem dX10_areAlike_45 : decode cX10_areAlike 45 = .ok (.iload_n 1, 1) := dOf oX10_areAlike_0 26 rfl
theorem dX10_areAlike_46 : decode cX10_areAlike 46 = .ok (.imul, 1) := dOf oX10_areAlike_0 27 rfl
theorem dX10_areAlike_47 : decode cX10_areAlike 47 = .ok (.iload 4, 2) := dOf oX10_areAlike_0 28 rfl
theorem dX10_areAlike_49 : decode cX10_areAlike 49 = .ok (.iadd, 1) := dOf oX10_areAlike_0 29 rfl
theorem dX10_areAlike_50 : decode cX10_areAlike 50 = .ok (.iaload, 1) := dOf oX10_areAlike_0 30 rfl
theorem dX10_areAlike_51 : decode cX10_areAlike 51 = .ok (.aload_n 0, 1) := dOf oX10_areAlike_0 31 rfl
theorem dX10_areAlike_52 : decode cX10_areAlike 52 = .ok (.getfield 56, 3) := dOf oX10_areAlike_0 32 rfl
theorem dX10_areAlike_55 : decode cX10_areAlike 55 = .ok (.bipush 36, 2) := dOf oX10_areAlike_0 33 rfl
theorem dX10_areAlike_57 : decode cX10_areAlike 57 = .ok (.iload_n 2, 1) := dOf oX10_areAlike_0 34 rfl
theorem dX10_areAlike_58 : decode cX10_areAlike 58 = .ok (.imul, 1) := dOf oX10_areAlike_0 35 rfl
theorem dX10_areAlike_59 : decode cX10_areAlike 59 = .ok (.iload 4, 2) := dOf oX10_areAlike_0 36 rfl
theorem dX10_areAlike_61 : decode cX10_areAlike 61 = .ok (.iadd, 1) := dOf oX10_areAlike_0 37 rfl
theorem dX10_areAlike_62 : decode cX10_areAlike 62 = .ok (.iaload, 1) := dOf oX10_areAlike_0 38 rfl
theorem dX10_areAlike_63 : decode cX10_areAlike 63 = .ok (.if_icmp .ne 7, 3) := dOf oX10_areAlike_0 39 rfl
theorem dX10_areAlike_66 : decode cX10_areAlike 66 = .ok (.iconst 1, 1) := dOf oX10_areAlike_0 40 rfl
theorem dX10_areAlike_67 : decode cX10_areAlike 67 = .ok (.goto 4, 3) := dOf oX10_areAlike_0 41 rfl
theorem dX10_areAlike_70 : decode cX10_areAlike 70 = .ok (.iconst 0, 1) := dOf oX10_areAlike_0 42 rfl
theorem dX10_areAlike_71 : decode cX10_areAlike 71 = .ok (.istore_n 3, 1) := dOf oX10_areAlike_0 43 rfl
theorem dX10_areAlike_72 : decode cX10_areAlike 72 = .ok (.iinc 4 1, 3) := dOf oX10_areAlike_0 44 rfl
theorem dX10_areAlike_75 : decode cX10_areAlike 75 = .ok (.goto (-51), 3) := dOf oX10_areAlike_0 45 rfl
theorem dX10_areAlike_78 : decode cX10_areAlike 78 = .ok (.iload_n 3, 1) := dOf oX10_areAlike_0 46 rfl
theorem dX10_areAlike_79 : decode cX10_areAlike 79 = .ok (.ireturn, 1) := dOf oX10_areAlike_0 47 rfl
def eX10_sortEnds_0 : List (Nat × Instr × Nat) := [(0, .aload_n 0, 1), (1, .iload_n 1, 1), (2, .invokevirtual 247, 3), (5, .iconst 0, 1), (6, .istore_n 3, 1), (7, .iconst 0, 1), (8, .istore 4, 2), (10, .iconst 0, 1), (11, .istore 5, 2), (13, .iload 5, 2), (15, .aload_n 0, 1), (16, .getfield 216, 3), (19, .if_icmp .ge 109, 3), (22, .iconst 0, 1), (23, .istore 6, 2), (25, .iconst 0, 1), (26, .istore 7, 2), (28, .iconst 0, 1), (29, .istore 8, 2), (31, .iload 8, 2), (33, .aload_n 0, 1), (34, .getfield 216, 3), (37, .if_icmp .ge 56, 3), (40, .aload_n 0, 1), (41, .iload 5, 2), (43, .iload 8, 2), (45, .invokevirtual 250, 3), (48, .istore 9, 2), (50, .iload 6, 2), (52, .iload 9, 2), (54, .ifCond .eq 14, 3), (57, .iload 8, 2), (59, .iload 5, 2), (61, .if_icmp .ge 7, 3), (64, .iconst 1, 1), (65, .goto 4, 3), (68, .iconst 0, 1), (69, .iadd, 1), (70, .istore 6, 2), (72, .iload 7, 2), (74, .iload 9, 2), (76, .ifCond .eq 7, 3), (79, .iconst 1, 1), (80, .goto 4, 3), (83, .iconst 0, 1), (84, .iadd, 1), (85, .istore 7, 2), (87, .iinc 8 1, 3), (90, .goto (-59), 3), (93, .iload_n 3, 1), (94, .iload 6, 2), (96, .ifCond .ne 7, 3), (99, .iconst 1, 1), (100, .goto 4, 3), (103, .iconst 0, 1), (104, .iadd, 1), (105, .istore_n 3, 1), (106, .iload 7, 2), (108, .iload 4, 2), (110, .if_icmp .le 8, 3)]
theorem oX10_sortEnds_0 : okC cX10_sortEnds eX10_sortEnds_0 = true := by decide +kernel
theorem dX10_sortEnds_0 : decode cX10_sortEnds 0 = .ok (.aload_n 0, 1) := dOf oX10_sortEnds_0 0 rfl
theorem dX10_sortEnds_1 : decode cX10_sortEnds 1 = .ok (.iload_n 1, 1) := dOf oX10_sortEnds_0 1 rfl
theorem dX10_sortEnds_2 : decode cX10_sortEnds 2 = .ok (.invokevirtual 247, 3) := dOf oX10_sortEnds_0 2 rfl
theorem dX10_sortEnds_5 : decode cX10_sortEnds 5 = .ok (.iconst 0, 1) := dOf oX10_sortEnds_0 3 rfl
theorem dX10_sortEnds_6 : decode cX10_sortEnds 6 = .ok (.istore_n 3, 1) := dOf oX10_sortEnds_0 4 rfl
theorem dX10_sortEnds_7 : decode cX10_sortEnds 7 = .ok (.iconst 0, 1) := dOf oX10_sortEnds_0 5 rfl
theorem dX10_sortEnds_8 : decode cX10_sortEnds 8 = .ok (.istore 4, 2) := dOf oX10_sortEnds_0 6 rfl
theorem dX10_sortEnds_10 : decode cX10_sortEnds 10 = .ok (.iconst 0, 1) := dOf oX10_sortEnds_0 7 rfl
theorem dX10_sortEnds_11 : decode cX10_sortEnds 11 = .ok (.istore 5, 2) := dOf oX10_sortEnds_0 8 rfl
theorem dX10_sortEnds_13 : decode cX10_sortEnds 13 = .ok (.iload 5, 2) := dOf oX10_sortEnds_0 9 rfl
theorem dX10_sortEnds_15 : decode cX10_sortEnds 15 = .ok (.aload_n 0, 1) := dOf oX10_sortEnds_0 10 rfl
theorem dX10_sortEnds_16 : decode cX10_sortEnds 16 = .ok (.getfield 216, 3) := dOf oX10_sortEnds_0 11 rfl
theorem dX10_sortEnds_19 : decode cX10_sortEnds 19 = .ok (.if_icmp .ge 109, 3) := dOf oX10_sortEnds_0 12 rfl
theorem dX10_sortEnds_22 : decode cX10_sortEnds 22 = .ok (.iconst 0, 1) := dOf oX10_sortEnds_0 13 rfl
theorem dX10_sortEnds_23 : decode cX10_sortEnds 23 = .ok (.istore 6, 2) := dOf oX10_sortEnds_0 14 rfl
theorem dX10_sortEnds_25 : decode cX10_sortEnds 25 = .ok (.iconst 0, 1) := dOf oX10_sortEnds_0 15 rfl
theorem dX10_sortEnds_26 : decode cX10_sortEnds 26 = .ok (.istore 7, 2) := dOf oX10_sortEnds_0 16 rfl
theorem dX10_sortEnds_28 : decode cX10_sortEnds 28 = .ok (.iconst 0, 1) := dOf oX10_sortEnds_0 17 rfl
theorem dX10_sortEnds_29 : decode cX10_sortEnds 29 = .ok (.istore 8, 2) := dOf oX10_sortEnds_0 18 rfl
theorem dX10_sortEnds_31 : decode cX10_sortEnds 31 = .ok (.iload 8, 2) := dOf oX10_sortEnds_0 19 rfl
theorem dX10_sortEnds_33 : decode cX10_sortEnds 33 = .ok (.aload_n 0, 1) := dOf oX10_sortEnds_0 20 rfl
theorem dX10_sortEnds_34 : decode cX10_sortEnds 34 = .ok (.getfield 216, 3) := dOf oX10_sortEnds_0 21 rfl
theorem dX10_sortEnds_37 : decode cX10_sortEnds 37 = .ok (.if_icmp .ge 56, 3) := dOf oX10_sortEnds_0 22 rfl
theorem dX10_sortEnds_40 : decode cX10_sortEnds 40 = .ok (.aload_n 0, 1) := dOf oX10_sortEnds_0 23 rfl
theorem dX10_sortEnds_41 : decode cX10_sortEnds 41 = .ok (.iload 5, 2) := dOf oX10_sortEnds_0 24 rfl
theorem dX10_sortEnds_43 : decode cX10_sortEnds 43 = .ok (.iload 8, 2) := dOf oX10_sortEnds_0 25 rfl
theorem dX10_sortEnds_45 : decode cX10_sortEnds 45 = .ok (.invokevirtual 250, 3) := dOf oX10_sortEnds_0 26 rfl
theorem dX10_sortEnds_48 : decode cX10_sortEnds 48 = .ok (.istore 9, 2) := dOf oX10_sortEnds_0 27 rfl
theorem dX10_sortEnds_50 : decode cX10_sortEnds 50 = .ok (.iload 6, 2) := dOf oX10_sortEnds_0 28 rfl
theorem dX10_sortEnds_52 : decode cX10_sortEnds 52 = .ok (.iload 9, 2) := dOf oX10_sortEnds_0 29 rfl
theorem dX10_sortEnds_54 : decode cX10_sortEnds 54 = .ok (.ifCond .eq 14, 3) := dOf oX10_sortEnds_0 30 rfl
theorem dX10_sortEnds_57 : decode cX10_sortEnds 57 = .ok (.iload 8, 2) := dOf oX10_sortEnds_0 31 rfl
theorem dX10_sortEnds_59 : decode cX10_sortEnds 59 = .ok (.iload 5, 2) := dOf oX10_sortEnds_0 32 rfl
theorem dX10_sortEnds_61 : decode cX10_sortEnds 61 = .ok (.if_icmp .ge 7, 3) := dOf oX10_sortEnds_0 33 rfl
theorem dX10_sortEnds_64 : decode cX10_sortEnds 64 = .ok (.iconst 1, 1) := dOf oX10_sortEnds_0 34 rfl
theorem dX10_sortEnds_65 : decode cX10_sortEnds 65 = .ok (.goto 4, 3) := dOf oX10_sortEnds_0 35 rfl
theorem dX10_sortEnds_68 : decode cX10_sortEnds 68 = .ok (.iconst 0, 1) := dOf oX10_sortEnds_0 36 rfl
theorem dX10_sortEnds_69 : decode cX10_sortEnds 69 = .ok (.iadd, 1) := dOf oX10_sortEnds_0 37 rfl
theorem dX10_sortEnds_70 : decode cX10_sortEnds 70 = .ok (.istore 6, 2) := dOf oX10_sortEnds_0 38 rfl
theorem dX10_sortEnds_72 : decode cX10_sortEnds 72 = .ok (.iload 7, 2) := dOf oX10_sortEnds_0 39 rfl
theorem dX10_sortEnds_74 : decode cX10_sortEnds 74 = .ok (.iload 9, 2) := dOf oX10_sortEnds_0 40 rfl
theorem dX10_sortEnds_76 : decode cX10_sortEnds 76 = .ok (.ifCond .eq 7, 3) := dOf oX10_sortEnds_0 41 rfl
theorem dX10_sortEnds_79 : decode cX10_sortEnds 79 = .ok (.iconst 1, 1) := dOf oX10_sortEnds_0 42 rfl
theorem dX10_sortEnds_80 : decode cX10_sortEnds 80 = .ok (.goto 4, 3) := dOf oX10_sortEnds_0 43 rfl
theorem dX10_sortEnds_83 : decode cX10_sortEnds 83 = .ok (.iconst 0, 1) := dOf oX10_sortEnds_0 44 rfl
theorem dX10_sortEnds_84 : decode cX10_sortEnds 84 = .ok (.iadd, 1) := dOf oX10_sortEnds_0 45 rfl
theorem dX10_sortEnds_85 : decode cX10_sortEnds 85 = .ok (.istore 7, 2) := dOf oX10_sortEnds_0 46 rfl
theorem dX10_sortEnds_87 : decode cX10_sortEnds 87 = .ok (.iinc 8 1, 3) := dOf oX10_sortEnds_0 47 rfl
theorem dX10_sortEnds_90 : decode cX10_sortEnds 90 = .ok (.goto (-59), 3) := dOf oX10_sortEnds_0 48 rfl
theorem dX10_sortEnds_93 : decode cX10_sortEnds 93 = .ok (.iload_n 3, 1) := dOf oX10_sortEnds_0 49 rfl
theorem dX10_sortEnds_94 : decode cX10_sortEnds 94 = .ok (.iload 6, 2) := dOf oX10_sortEnds_0 50 rfl
theorem dX10_sortEnds_96 : decode cX10_sortEnds 96 = .ok (.ifCond .ne 7, 3) := dOf oX10_sortEnds_0 51 rfl
theorem dX10_sortEnds_99 : decode cX10_sortEnds 99 = .ok (.iconst 1, 1) := dOf oX10_sortEnds_0 52 rfl
theorem dX10_sortEnds_100 : decode cX10_sortEnds 100 = .ok (.goto 4, 3) := dOf oX10_sortEnds_0 53 rfl
theorem dX10_sortEnds_103 : decode cX10_sortEnds 103 = .ok (.iconst 0, 1) := dOf oX10_sortEnds_0 54 rfl
theorem dX10_sortEnds_104 : decode cX10_sortEnds 104 = .ok (.iadd, 1) := dOf oX10_sortEnds_0 55 rfl
theorem dX10_sortEnds_105 : decode cX10_sortEnds 105 = .ok (.istore_n 3, 1) := dOf oX10_sortEnds_0 56 rfl
theorem dX10_sortEnds_106 : decode cX10_sortEnds 106 = .ok (.iload 7, 2) := dOf oX10_sortEnds_0 57 rfl
theorem dX10_sortEnds_108 : decode cX10_sortEnds 108 = .ok (.iload 4, 2) := dOf oX10_sortEnds_0 58 rfl
theorem dX10_sortEnds_110 : decode cX10_sortEnds 110 = .ok (.if_icmp .le 8, 3) := dOf oX10_sortEnds_0 59 rfl
def eX10_sortEnds_1 : List (Nat × Instr × Nat) := [(113, .iload 7, 2), (115, .goto 5, 3), (118, .iload 4, 2), (120, .istore 4, 2), (122, .iinc 5 1, 3), (125, .goto (-112), 3), (128, .iload_n 2, 1), (129, .ifCond .eq 8, 3), (132, .iload 4, 2), (134, .goto 4, 3), (137, .iload_n 3, 1), (138, .ireturn, 1)]
theorem oX10_sortEnds_1 : okC cX10_sortEnds eX10_sortEnds_1 = true := by decide +kernel
theorem dX10_sortEnds_113 : decode cX10_sortEnds 113 = .ok (.iload 7, 2) := dOf oX10_sortEnds_1 0 rfl
theorem dX10_sortEnds_115 : decode cX10_sortEnds 115 = .ok (.goto 5, 3) := dOf oX10_sortEnds_1 1 rfl
theorem dX10_sortEnds_118 : decode cX10_sortEnds 118 = .ok (.iload 4, 2) := dOf oX10_sortEnds_1 2 rfl
theorem dX10_sortEnds_120 : decode cX10_sortEnds 120 = .ok (.istore 4, 2) := dOf oX10_sortEnds_1 3 rfl
theorem dX10_sortEnds_122 : decode cX10_sortEnds 122 = .ok (.iinc 5 1, 3) := dOf oX10_sortEnds_1 4 rfl
theorem dX10_sortEnds_125 : decode cX10_sortEnds 125 = .ok (.goto (-112), 3) := dOf oX10_sortEnds_1 5 rfl
theorem dX10_sortEnds_128 : decode cX10_sortEnds 128 = .ok (.iload_n 2, 1) := dOf oX10_sortEnds_1 6 rfl
theorem dX10_sortEnds_129 : decode cX10_sortEnds 129 = .ok (.ifCond .eq 8, 3) := dOf oX10_sortEnds_1 7 rfl
theorem dX10_sortEnds_132 : decode cX10_sortEnds 132 = .ok (.iload 4, 2) := dOf oX10_sortEnds_1 8 rfl
theorem dX10_sortEnds_134 : decode cX10_sortEnds 134 = .ok (.goto 4, 3) := dOf oX10_sortEnds_1 9 rfl
theorem dX10_sortEnds_137 : decode cX10_sortEnds 137 = .ok (.iload_n 3, 1) := dOf oX10_sortEnds_1 10 rfl
theorem dX10_sortEnds_138 : decode cX10_sortEnds 138 = .ok (.ireturn, 1) := dOf oX10_sortEnds_1 11 rfl
def eX10_differs_0 : List (Nat × Instr × Nat) := [(0, .aload_n 0, 1), (1, .iload_n 1, 1), (2, .invokevirtual 105, 3), (5, .ifCond .ne 5, 3), (8, .iconst (-1), 1), (9, .ireturn, 1), (10, .aload_n 0, 1), (11, .invokevirtual 235, 3), (14, .istore_n 2, 1), (15, .iload_n 2, 1), (16, .ifCond .ge 7, 3), (19, .iload_n 2, 1), (20, .goto 9, 3), (23, .aload_n 0, 1), (24, .iload_n 1, 1), (25, .iconst 0, 1), (26, .invokevirtual 253, 3), (29, .ireturn, 1)]
theorem oX10_differs_0 : okC cX10_differs eX10_differs_0 = true := by decide +kernel
theorem dX10_differs_0 : decode cX10_differs 0 = .ok (.aload_n 0, 1) := dOf oX10_differs_0 0 rfl
theorem dX10_differs_1 : decode cX10_differs 1 = .ok (.iload_n 1, 1) := dOf oX10_differs_0 1 rfl
theorem dX10_differs_2 : decode cX10_differs 2 = .ok (.invokevirtual 105, 3) := dOf oX10_differs_0 2 rfl
theorem dX10_differs_5 : decode cX10_differs 5 = .ok (.ifCond .ne 5, 3) := dOf oX10_differs_0 3 rfl
theorem dX10_differs_8 : decode cX10_differs 8 = .ok (.iconst (-1), 1) := dOf oX10_differs_0 4 rfl
theorem dX10_differs_9 : decode cX10_differs 9 = .ok (.ireturn, 1) := dOf oX10_differs_0 5 rfl
theorem dX10_differs_10 : decode cX10_differs 10 = .ok (.aload_n 0, 1) := dOf oX10_differs_0 6 rfl
theorem dX10_differs_11 : decode cX10_differs 11 = .ok (.invokevirtual 235, 3) := dOf oX10_differs_0 7 rfl
theorem dX10_differs_14 : decode cX10_differs 14 = .ok (.istore_n 2, 1) := dOf oX10_differs_0 8 rfl
theorem dX10_differs_15 : decode cX10_differs 15 = .ok (.iload_n 2, 1) := dOf oX10_differs_0 9 rfl
theorem dX10_differs_16 : decode cX10_differs 16 = .ok (.ifCond .ge 7, 3) := dOf oX10_differs_0 10 rfl
theorem dX10_differs_19 : decode cX10_differs 19 = .ok (.iload_n 2, 1) := dOf oX10_differs_0 11 rfl
theorem dX10_differs_20 : decode cX10_differs 20 = .ok (.goto 9, 3) := dOf oX10_differs_0 12 rfl
theorem dX10_differs_23 : decode cX10_differs 23 = .ok (.aload_n 0, 1) := dOf oX10_differs_0 13 rfl
theorem dX10_differs_24 : decode cX10_differs 24 = .ok (.iload_n 1, 1) := dOf oX10_differs_0 14 rfl
theorem dX10_differs_25 : decode cX10_differs 25 = .ok (.iconst 0, 1) := dOf oX10_differs_0 15 rfl
theorem dX10_differs_26 : decode cX10_differs 26 = .ok (.invokevirtual 253, 3) := dOf oX10_differs_0 16 rfl
theorem dX10_differs_29 : decode cX10_differs 29 = .ok (.ireturn, 1) := dOf oX10_differs_0 17 rfl
def eX10_settle_0 : List (Nat × Instr × Nat) := [(0, .aload_n 0, 1), (1, .invokevirtual 235, 3), (4, .istore_n 1, 1), (5, .iload_n 1, 1), (6, .ifCond .ge 5, 3), (9, .iload_n 1, 1), (10, .ireturn, 1), (11, .bipush (-4), 2), (13, .istore_n 2, 1), (14, .iconst 0, 1), (15, .istore_n 3, 1), (16, .iconst 0, 1), (17, .istore 4, 2), (19, .iload 4, 2), (21, .aload_n 0, 1), (22, .getfield 80, 3), (25, .if_icmp .ge 45, 3), (28, .aload_n 0, 1), (29, .getfield 16, 3), (32, .iload 4, 2), (34, .iaload, 1), (35, .iconst 1, 1), (36, .if_icmp .eq 28, 3), (39, .aload_n 0, 1), (40, .iload 4, 2), (42, .iconst 1, 1), (43, .invokevirtual 253, 3), (46, .istore 5, 2), (48, .iload_n 2, 1), (49, .ifCond .lt 9, 3), (52, .iload 5, 2), (54, .iload_n 3, 1), (55, .if_icmp .ge 9, 3), (58, .iload 4, 2), (60, .istore_n 2, 1), (61, .iload 5, 2), (63, .istore_n 3, 1), (64, .iinc 4 1, 3), (67, .goto (-48), 3), (70, .iload_n 2, 1), (71, .ireturn, 1)]
theorem oX10_settle_0 : okC cX10_settle eX10_settle_0 = true := by decide +kernel
theorem dX10_settle_0 : decode cX10_settle 0 = .ok (.aload_n 0, 1) := dOf oX10_settle_0 0 rfl
theorem dX10_settle_1 : decode cX10_settle 1 = .ok (.invokevirtual 235, 3) := dOf oX10_settle_0 1 rfl
theorem dX10_settle_4 : decode cX10_settle 4 = .ok (.istore_n 1, 1) := dOf oX10_settle_0 2 rfl
theorem dX10_settle_5 : decode cX10_settle 5 = .ok (.iload_n 1, 1) := dOf oX10_settle_0 3 rfl
theorem dX10_settle_6 : decode cX10_settle 6 = .ok (.ifCond .ge 5, 3) := dOf oX10_settle_0 4 rfl
theorem dX10_settle_9 : decode cX10_settle 9 = .ok (.iload_n 1, 1) := dOf oX10_settle_0 5 rfl
theorem dX10_settle_10 : decode cX10_settle 10 = .ok (.ireturn, 1) := dOf oX10_settle_0 6 rfl
theorem dX10_settle_11 : decode cX10_settle 11 = .ok (.bipush (-4), 2) := dOf oX10_settle_0 7 rfl
theorem dX10_settle_13 : decode cX10_settle 13 = .ok (.istore_n 2, 1) := dOf oX10_settle_0 8 rfl
theorem dX10_settle_14 : decode cX10_settle 14 = .ok (.iconst 0, 1) := dOf oX10_settle_0 9 rfl
theorem dX10_settle_15 : decode cX10_settle 15 = .ok (.istore_n 3, 1) := dOf oX10_settle_0 10 rfl
theorem dX10_settle_16 : decode cX10_settle 16 = .ok (.iconst 0, 1) := dOf oX10_settle_0 11 rfl
theorem dX10_settle_17 : decode cX10_settle 17 = .ok (.istore 4, 2) := dOf oX10_settle_0 12 rfl
theorem dX10_settle_19 : decode cX10_settle 19 = .ok (.iload 4, 2) := dOf oX10_settle_0 13 rfl
theorem dX10_settle_21 : decode cX10_settle 21 = .ok (.aload_n 0, 1) := dOf oX10_settle_0 14 rfl
theorem dX10_settle_22 : decode cX10_settle 22 = .ok (.getfield 80, 3) := dOf oX10_settle_0 15 rfl
theorem dX10_settle_25 : decode cX10_settle 25 = .ok (.if_icmp .ge 45, 3) := dOf oX10_settle_0 16 rfl
theorem dX10_settle_28 : decode cX10_settle 28 = .ok (.aload_n 0, 1) := dOf oX10_settle_0 17 rfl
theorem dX10_settle_29 : decode cX10_settle 29 = .ok (.getfield 16, 3) := dOf oX10_settle_0 18 rfl
theorem dX10_settle_32 : decode cX10_settle 32 = .ok (.iload 4, 2) := dOf oX10_settle_0 19 rfl
theorem dX10_settle_34 : decode cX10_settle 34 = .ok (.iaload, 1) := dOf oX10_settle_0 20 rfl
theorem dX10_settle_35 : decode cX10_settle 35 = .ok (.iconst 1, 1) := dOf oX10_settle_0 21 rfl
theorem dX10_settle_36 : decode cX10_settle 36 = .ok (.if_icmp .eq 28, 3) := dOf oX10_settle_0 22 rfl
theorem dX10_settle_39 : decode cX10_settle 39 = .ok (.aload_n 0, 1) := dOf oX10_settle_0 23 rfl
theorem dX10_settle_40 : decode cX10_settle 40 = .ok (.iload 4, 2) := dOf oX10_settle_0 24 rfl
theorem dX10_settle_42 : decode cX10_settle 42 = .ok (.iconst 1, 1) := dOf oX10_settle_0 25 rfl
theorem dX10_settle_43 : decode cX10_settle 43 = .ok (.invokevirtual 253, 3) := dOf oX10_settle_0 26 rfl
theorem dX10_settle_46 : decode cX10_settle 46 = .ok (.istore 5, 2) := dOf oX10_settle_0 27 rfl
theorem dX10_settle_48 : decode cX10_settle 48 = .ok (.iload_n 2, 1) := dOf oX10_settle_0 28 rfl
theorem dX10_settle_49 : decode cX10_settle 49 = .ok (.ifCond .lt 9, 3) := dOf oX10_settle_0 29 rfl
theorem dX10_settle_52 : decode cX10_settle 52 = .ok (.iload 5, 2) := dOf oX10_settle_0 30 rfl
theorem dX10_settle_54 : decode cX10_settle 54 = .ok (.iload_n 3, 1) := dOf oX10_settle_0 31 rfl
theorem dX10_settle_55 : decode cX10_settle 55 = .ok (.if_icmp .ge 9, 3) := dOf oX10_settle_0 32 rfl
theorem dX10_settle_58 : decode cX10_settle 58 = .ok (.iload 4, 2) := dOf oX10_settle_0 33 rfl
theorem dX10_settle_60 : decode cX10_settle 60 = .ok (.istore_n 2, 1) := dOf oX10_settle_0 34 rfl
theorem dX10_settle_61 : decode cX10_settle 61 = .ok (.iload 5, 2) := dOf oX10_settle_0 35 rfl
theorem dX10_settle_63 : decode cX10_settle 63 = .ok (.istore_n 3, 1) := dOf oX10_settle_0 36 rfl
theorem dX10_settle_64 : decode cX10_settle 64 = .ok (.iinc 4 1, 3) := dOf oX10_settle_0 37 rfl
theorem dX10_settle_67 : decode cX10_settle 67 = .ok (.goto (-48), 3) := dOf oX10_settle_0 38 rfl
theorem dX10_settle_70 : decode cX10_settle 70 = .ok (.iload_n 2, 1) := dOf oX10_settle_0 39 rfl
theorem dX10_settle_71 : decode cX10_settle 71 = .ok (.ireturn, 1) := dOf oX10_settle_0 40 rfl
def eX10_kindOf_0 : List (Nat × Instr × Nat) := [(0, .iload_n 0, 1), (1, .invokestatic 123, 3), (4, .ifCond .eq 7, 3), (7, .iconst 1, 1), (8, .goto 26, 3), (11, .iload_n 0, 1), (12, .invokestatic 129, 3), (15, .ifCond .eq 7, 3), (18, .iconst 2, 1), (19, .goto 15, 3), (22, .iload_n 0, 1), (23, .invokestatic 126, 3), (26, .ifCond .eq 7, 3), (29, .iconst 3, 1), (30, .goto 4, 3), (33, .iconst 4, 1), (34, .ireturn, 1)]
theorem oX10_kindOf_0 : okC cX10_kindOf eX10_kindOf_0 = true := by decide +kernel
theorem dX10_kindOf_0 : decode cX10_kindOf 0 = .ok (.iload_n 0, 1) := dOf oX10_kindOf_0 0 rfl
theorem dX10_kindOf_1 : decode cX10_kindOf 1 = .ok (.invokestatic 123, 3) := dOf oX10_kindOf_0 1 rfl
theorem dX10_kindOf_4 : decode cX10_kindOf 4 = .ok (.ifCond .eq 7, 3) := dOf oX10_kindOf_0 2 rfl
theorem dX10_kindOf_7 : decode cX10_kindOf 7 = .ok (.iconst 1, 1) := dOf oX10_kindOf_0 3 rfl
theorem dX10_kindOf_8 : decode cX10_kindOf 8 = .ok (.goto 26, 3) := dOf oX10_kindOf_0 4 rfl
theorem dX10_kindOf_11 : decode cX10_kindOf 11 = .ok (.iload_n 0, 1) := dOf oX10_kindOf_0 5 rfl
theorem dX10_kindOf_12 : decode cX10_kindOf 12 = .ok (.invokestatic 129, 3) := dOf oX10_kindOf_0 6 rfl
theorem dX10_kindOf_15 : decode cX10_kindOf 15 = .ok (.ifCond .eq 7, 3) := dOf oX10_kindOf_0 7 rfl
theorem dX10_kindOf_18 : decode cX10_kindOf 18 = .ok (.iconst 2, 1) := dOf oX10_kindOf_0 8 rfl
theorem dX10_kindOf_19 : decode cX10_kindOf 19 = .ok (.goto 15, 3) := dOf oX10_kindOf_0 9 rfl
theorem dX10_kindOf_22 : decode cX10_kindOf 22 = .ok (.iload_n 0, 1) := dOf oX10_kindOf_0 10 rfl
theorem dX10_kindOf_23 : decode cX10_kindOf 23 = .ok (.invokestatic 126, 3) := dOf oX10_kindOf_0 11 rfl
theorem dX10_kindOf_26 : decode cX10_kindOf 26 = .ok (.ifCond .eq 7, 3) := dOf oX10_kindOf_0 12 rfl
theorem dX10_kindOf_29 : decode cX10_kindOf 29 = .ok (.iconst 3, 1) := dOf oX10_kindOf_0 13 rfl
theorem dX10_kindOf_30 : decode cX10_kindOf 30 = .ok (.goto 4, 3) := dOf oX10_kindOf_0 14 rfl
theorem dX10_kindOf_33 : decode cX10_kindOf 33 = .ok (.iconst 4, 1) := dOf oX10_kindOf_0 15 rfl
theorem dX10_kindOf_34 : decode cX10_kindOf 34 = .ok (.ireturn, 1) := dOf oX10_kindOf_0 16 rfl
def eX10_findShape_0 : List (Nat × Instr × Nat) := [(0, .aload_n 0, 1), (1, .iconst 0, 1), (2, .putfield 256, 3), (5, .iconst 0, 1), (6, .istore 4, 2), (8, .iload 4, 2), (10, .iload_n 3, 1), (11, .if_icmp .ge 64, 3), (14, .aload_n 1, 1), (15, .iload_n 2, 1), (16, .iload 4, 2), (18, .iadd, 1), (19, .iaload, 1), (20, .invokestatic 259, 3), (23, .istore 5, 2), (25, .aload_n 0, 1), (26, .getfield 256, 3), (29, .ifCond .eq 19, 3), (32, .aload_n 0, 1), (33, .getfield 62, 3), (36, .aload_n 0, 1), (37, .getfield 256, 3), (40, .iconst 1, 1), (41, .isub, 1), (42, .iaload, 1), (43, .iload 5, 2), (45, .if_icmp .eq 24, 3), (48, .aload_n 0, 1), (49, .getfield 62, 3), (52, .aload_n 0, 1), (53, .getfield 256, 3), (56, .iload 5, 2), (58, .iastore, 1), (59, .aload_n 0, 1), (60, .dup, 1), (61, .getfield 256, 3), (64, .iconst 1, 1), (65, .iadd, 1), (66, .putfield 256, 3), (69, .iinc 4 1, 3), (72, .goto (-64), 3), (75, .return_, 1)]
theorem oX10_findShape_0 : okC cX10_findShape eX10_findShape_0 = true := by decide +kernel
theorem dX10_findShape_0 : decode cX10_findShape 0 = .ok (.aload_n 0, 1) := dOf oX10_findShape_0 0 rfl
theorem dX10_findShape_1 : decode cX10_findShape 1 = .ok (.iconst 0, 1) := dOf oX10_findShape_0 1 rfl
theorem dX10_findShape_2 : decode cX10_findShape 2 = .ok (.putfield 256, 3) := dOf oX10_findShape_0 2 rfl
theorem dX10_findShape_5 : decode cX10_findShape 5 = .ok (.iconst 0, 1) := dOf oX10_findShape_0 3 rfl
theorem dX10_findShape_6 : decode cX10_findShape 6 = .ok (.istore 4, 2) := dOf oX10_findShape_0 4 rfl
theorem dX10_findShape_8 : decode cX10_findShape 8 = .ok (.iload 4, 2) := dOf oX10_findShape_0 5 rfl
theorem dX10_findShape_10 : decode cX10_findShape 10 = .ok (.iload_n 3, 1) := dOf oX10_findShape_0 6 rfl
theorem dX10_findShape_11 : decode cX10_findShape 11 = .ok (.if_icmp .ge 64, 3) := dOf oX10_findShape_0 7 rfl
theorem dX10_findShape_14 : decode cX10_findShape 14 = .ok (.aload_n 1, 1) := dOf oX10_findShape_0 8 rfl
theorem dX10_findShape_15 : decode cX10_findShape 15 = .ok (.iload_n 2, 1) := dOf oX10_findShape_0 9 rfl
theorem dX10_findShape_16 : decode cX10_findShape 16 = .ok (.iload 4, 2) := dOf oX10_findShape_0 10 rfl
theorem dX10_findShape_18 : decode cX10_findShape 18 = .ok (.iadd, 1) := dOf oX10_findShape_0 11 rfl
theorem dX10_findShape_19 : decode cX10_findShape 19 = .ok (.iaload, 1) := dOf oX10_findShape_0 12 rfl
theorem dX10_findShape_20 : decode cX10_findShape 20 = .ok (.invokestatic 259, 3) := dOf oX10_findShape_0 13 rfl
theorem dX10_findShape_23 : decode cX10_findShape 23 = .ok (.istore 5, 2) := dOf oX10_findShape_0 14 rfl
theorem dX10_findShape_25 : decode cX10_findShape 25 = .ok (.aload_n 0, 1) := dOf oX10_findShape_0 15 rfl
theorem dX10_findShape_26 : decode cX10_findShape 26 = .ok (.getfield 256, 3) := dOf oX10_findShape_0 16 rfl
theorem dX10_findShape_29 : decode cX10_findShape 29 = .ok (.ifCond .eq 19, 3) := dOf oX10_findShape_0 17 rfl
theorem dX10_findShape_32 : decode cX10_findShape 32 = .ok (.aload_n 0, 1) := dOf oX10_findShape_0 18 rfl
theorem dX10_findShape_33 : decode cX10_findShape 33 = .ok (.getfield 62, 3) := dOf oX10_findShape_0 19 rfl
theorem dX10_findShape_36 : decode cX10_findShape 36 = .ok (.aload_n 0, 1) := dOf oX10_findShape_0 20 rfl
theorem dX10_findShape_37 : decode cX10_findShape 37 = .ok (.getfield 256, 3) := dOf oX10_findShape_0 21 rfl
theorem dX10_findShape_40 : decode cX10_findShape 40 = .ok (.iconst 1, 1) := dOf oX10_findShape_0 22 rfl
theorem dX10_findShape_41 : decode cX10_findShape 41 = .ok (.isub, 1) := dOf oX10_findShape_0 23 rfl
theorem dX10_findShape_42 : decode cX10_findShape 42 = .ok (.iaload, 1) := dOf oX10_findShape_0 24 rfl
theorem dX10_findShape_43 : decode cX10_findShape 43 = .ok (.iload 5, 2) := dOf oX10_findShape_0 25 rfl
theorem dX10_findShape_45 : decode cX10_findShape 45 = .ok (.if_icmp .eq 24, 3) := dOf oX10_findShape_0 26 rfl
theorem dX10_findShape_48 : decode cX10_findShape 48 = .ok (.aload_n 0, 1) := dOf oX10_findShape_0 27 rfl
theorem dX10_findShape_49 : decode cX10_findShape 49 = .ok (.getfield 62, 3) := dOf oX10_findShape_0 28 rfl
theorem dX10_findShape_52 : decode cX10_findShape 52 = .ok (.aload_n 0, 1) := dOf oX10_findShape_0 29 rfl
theorem dX10_findShape_53 : decode cX10_findShape 53 = .ok (.getfield 256, 3) := dOf oX10_findShape_0 30 rfl
theorem dX10_findShape_56 : decode cX10_findShape 56 = .ok (.iload 5, 2) := dOf oX10_findShape_0 31 rfl
theorem dX10_findShape_58 : decode cX10_findShape 58 = .ok (.iastore, 1) := dOf oX10_findShape_0 32 rfl
theorem dX10_findShape_59 : decode cX10_findShape 59 = .ok (.aload_n 0, 1) := dOf oX10_findShape_0 33 rfl
theorem dX10_findShape_60 : decode cX10_findShape 60 = .ok (.dup, 1) := dOf oX10_findShape_0 34 rfl
theorem dX10_findShape_61 : decode cX10_findShape 61 = .ok (.getfield 256, 3) := dOf oX10_findShape_0 35 rfl
theorem dX10_findShape_64 : decode cX10_findShape 64 = .ok (.iconst 1, 1) := dOf oX10_findShape_0 36 rfl
theorem dX10_findShape_65 : decode cX10_findShape 65 = .ok (.iadd, 1) := dOf oX10_findShape_0 37 rfl
theorem dX10_findShape_66 : decode cX10_findShape 66 = .ok (.putfield 256, 3) := dOf oX10_findShape_0 38 rfl
theorem dX10_findShape_69 : decode cX10_findShape 69 = .ok (.iinc 4 1, 3) := dOf oX10_findShape_0 39 rfl
theorem dX10_findShape_72 : decode cX10_findShape 72 = .ok (.goto (-64), 3) := dOf oX10_findShape_0 40 rfl
theorem dX10_findShape_75 : decode cX10_findShape 75 = .ok (.return_, 1) := dOf oX10_findShape_0 41 rfl
def eX10_hasShape_0 : List (Nat × Instr × Nat) := [(0, .iconst 0, 1), (1, .istore_n 2, 1), (2, .iconst 1, 1), (3, .istore_n 3, 1), (4, .iconst 0, 1), (5, .istore 4, 2), (7, .iload 4, 2), (9, .aload_n 0, 1), (10, .getfield 22, 3), (13, .iload_n 1, 1), (14, .iaload, 1), (15, .if_icmp .ge 85, 3), (18, .aload_n 0, 1), (19, .getfield 19, 3), (22, .bipush 36, 2), (24, .iload_n 1, 1), (25, .imul, 1), (26, .iload 4, 2), (28, .iadd, 1), (29, .iaload, 1), (30, .invokestatic 259, 3), (33, .istore 5, 2), (35, .iload 4, 2), (37, .ifCond .eq 25, 3), (40, .iload 5, 2), (42, .aload_n 0, 1), (43, .getfield 19, 3), (46, .bipush 36, 2), (48, .iload_n 1, 1), (49, .imul, 1), (50, .iload 4, 2), (52, .iadd, 1), (53, .iconst 1, 1), (54, .isub, 1), (55, .iaload, 1), (56, .invokestatic 259, 3), (59, .if_icmp .eq 35, 3), (62, .iload_n 3, 1), (63, .ifCond .eq 26, 3), (66, .iload_n 2, 1), (67, .aload_n 0, 1), (68, .getfield 256, 3), (71, .if_icmp .ge 18, 3), (74, .aload_n 0, 1), (75, .getfield 62, 3), (78, .iload_n 2, 1), (79, .iaload, 1), (80, .iload 5, 2), (82, .if_icmp .ne 7, 3), (85, .iconst 1, 1), (86, .goto 4, 3), (89, .iconst 0, 1), (90, .istore_n 3, 1), (91, .iinc 2 1, 3), (94, .iinc 4 1, 3), (97, .goto (-90), 3), (100, .iload_n 3, 1), (101, .ifCond .eq 15, 3), (104, .iload_n 2, 1), (105, .aload_n 0, 1)]
theorem oX10_hasShape_0 : okC cX10_hasShape eX10_hasShape_0 = true := by decide +kernel
theorem dX10_hasShape_0 : decode cX10_hasShape 0 = .ok (.iconst 0, 1) := dOf oX10_hasShape_0 0 rfl
theorem dX10_hasShape_1 : decode cX10_hasShape 1 = .ok (.istore_n 2, 1) := dOf oX10_hasShape_0 1 rfl
theorem dX10_hasShape_2 : decode cX10_hasShape 2 = .ok (.iconst 1, 1) := dOf oX10_hasShape_0 2 rfl
theorem dX10_hasShape_3 : decode cX10_hasShape 3 = .ok (.istore_n 3, 1) := dOf oX10_hasShape_0 3 rfl
theorem dX10_hasShape_4 : decode cX10_hasShape 4 = .ok (.iconst 0, 1) := dOf oX10_hasShape_0 4 rfl
theorem dX10_hasShape_5 : decode cX10_hasShape 5 = .ok (.istore 4, 2) := dOf oX10_hasShape_0 5 rfl
theorem dX10_hasShape_7 : decode cX10_hasShape 7 = .ok (.iload 4, 2) := dOf oX10_hasShape_0 6 rfl
theorem dX10_hasShape_9 : decode cX10_hasShape 9 = .ok (.aload_n 0, 1) := dOf oX10_hasShape_0 7 rfl
theorem dX10_hasShape_10 : decode cX10_hasShape 10 = .ok (.getfield 22, 3) := dOf oX10_hasShape_0 8 rfl
theorem dX10_hasShape_13 : decode cX10_hasShape 13 = .ok (.iload_n 1, 1) := dOf oX10_hasShape_0 9 rfl
theorem dX10_hasShape_14 : decode cX10_hasShape 14 = .ok (.iaload, 1) := dOf oX10_hasShape_0 10 rfl
theorem dX10_hasShape_15 : decode cX10_hasShape 15 = .ok (.if_icmp .ge 85, 3) := dOf oX10_hasShape_0 11 rfl
theorem dX10_hasShape_18 : decode cX10_hasShape 18 = .ok (.aload_n 0, 1) := dOf oX10_hasShape_0 12 rfl
theorem dX10_hasShape_19 : decode cX10_hasShape 19 = .ok (.getfield 19, 3) := dOf oX10_hasShape_0 13 rfl
theorem dX10_hasShape_22 : decode cX10_hasShape 22 = .ok (.bipush 36, 2) := dOf oX10_hasShape_0 14 rfl
theorem dX10_hasShape_24 : decode cX10_hasShape 24 = .ok (.iload_n 1, 1) := dOf oX10_hasShape_0 15 rfl
theorem dX10_hasShape_25 : decode cX10_hasShape 25 = .ok (.imul, 1) := dOf oX10_hasShape_0 16 rfl
theorem dX10_hasShape_26 : decode cX10_hasShape 26 = .ok (.iload 4, 2) := dOf oX10_hasShape_0 17 rfl
theorem dX10_hasShape_28 : decode cX10_hasShape 28 = .ok (.iadd, 1) := dOf oX10_hasShape_0 18 rfl
theorem dX10_hasShape_29 : decode cX10_hasShape 29 = .ok (.iaload, 1) := dOf oX10_hasShape_0 19 rfl
theorem dX10_hasShape_30 : decode cX10_hasShape 30 = .ok (.invokestatic 259, 3) := dOf oX10_hasShape_0 20 rfl
theorem dX10_hasShape_33 : decode cX10_hasShape 33 = .ok (.istore 5, 2) := dOf oX10_hasShape_0 21 rfl
theorem dX10_hasShape_35 : decode cX10_hasShape 35 = .ok (.iload 4, 2) := dOf oX10_hasShape_0 22 rfl
theorem dX10_hasShape_37 : decode cX10_hasShape 37 = .ok (.ifCond .eq 25, 3) := dOf oX10_hasShape_0 23 rfl
theorem dX10_hasShape_40 : decode cX10_hasShape 40 = .ok (.iload 5, 2) := dOf oX10_hasShape_0 24 rfl
theorem dX10_hasShape_42 : decode cX10_hasShape 42 = .ok (.aload_n 0, 1) := dOf oX10_hasShape_0 25 rfl
theorem dX10_hasShape_43 : decode cX10_hasShape 43 = .ok (.getfield 19, 3) := dOf oX10_hasShape_0 26 rfl
theorem dX10_hasShape_46 : decode cX10_hasShape 46 = .ok (.bipush 36, 2) := dOf oX10_hasShape_0 27 rfl
theorem dX10_hasShape_48 : decode cX10_hasShape 48 = .ok (.iload_n 1, 1) := dOf oX10_hasShape_0 28 rfl
theorem dX10_hasShape_49 : decode cX10_hasShape 49 = .ok (.imul, 1) := dOf oX10_hasShape_0 29 rfl
theorem dX10_hasShape_50 : decode cX10_hasShape 50 = .ok (.iload 4, 2) := dOf oX10_hasShape_0 30 rfl
theorem dX10_hasShape_52 : decode cX10_hasShape 52 = .ok (.iadd, 1) := dOf oX10_hasShape_0 31 rfl
theorem dX10_hasShape_53 : decode cX10_hasShape 53 = .ok (.iconst 1, 1) := dOf oX10_hasShape_0 32 rfl
theorem dX10_hasShape_54 : decode cX10_hasShape 54 = .ok (.isub, 1) := dOf oX10_hasShape_0 33 rfl
theorem dX10_hasShape_55 : decode cX10_hasShape 55 = .ok (.iaload, 1) := dOf oX10_hasShape_0 34 rfl
theorem dX10_hasShape_56 : decode cX10_hasShape 56 = .ok (.invokestatic 259, 3) := dOf oX10_hasShape_0 35 rfl
theorem dX10_hasShape_59 : decode cX10_hasShape 59 = .ok (.if_icmp .eq 35, 3) := dOf oX10_hasShape_0 36 rfl
theorem dX10_hasShape_62 : decode cX10_hasShape 62 = .ok (.iload_n 3, 1) := dOf oX10_hasShape_0 37 rfl
theorem dX10_hasShape_63 : decode cX10_hasShape 63 = .ok (.ifCond .eq 26, 3) := dOf oX10_hasShape_0 38 rfl
theorem dX10_hasShape_66 : decode cX10_hasShape 66 = .ok (.iload_n 2, 1) := dOf oX10_hasShape_0 39 rfl
theorem dX10_hasShape_67 : decode cX10_hasShape 67 = .ok (.aload_n 0, 1) := dOf oX10_hasShape_0 40 rfl
theorem dX10_hasShape_68 : decode cX10_hasShape 68 = .ok (.getfield 256, 3) := dOf oX10_hasShape_0 41 rfl
theorem dX10_hasShape_71 : decode cX10_hasShape 71 = .ok (.if_icmp .ge 18, 3) := dOf oX10_hasShape_0 42 rfl
theorem dX10_hasShape_74 : decode cX10_hasShape 74 = .ok (.aload_n 0, 1) := dOf oX10_hasShape_0 43 rfl
theorem dX10_hasShape_75 : decode cX10_hasShape 75 = .ok (.getfield 62, 3) := dOf oX10_hasShape_0 44 rfl
theorem dX10_hasShape_78 : decode cX10_hasShape 78 = .ok (.iload_n 2, 1) := dOf oX10_hasShape_0 45 rfl
theorem dX10_hasShape_79 : decode cX10_hasShape 79 = .ok (.iaload, 1) := dOf oX10_hasShape_0 46 rfl
theorem dX10_hasShape_80 : decode cX10_hasShape 80 = .ok (.iload 5, 2) := dOf oX10_hasShape_0 47 rfl
theorem dX10_hasShape_82 : decode cX10_hasShape 82 = .ok (.if_icmp .ne 7, 3) := dOf oX10_hasShape_0 48 rfl
theorem dX10_hasShape_85 : decode cX10_hasShape 85 = .ok (.iconst 1, 1) := dOf oX10_hasShape_0 49 rfl
theorem dX10_hasShape_86 : decode cX10_hasShape 86 = .ok (.goto 4, 3) := dOf oX10_hasShape_0 50 rfl
theorem dX10_hasShape_89 : decode cX10_hasShape 89 = .ok (.iconst 0, 1) := dOf oX10_hasShape_0 51 rfl
theorem dX10_hasShape_90 : decode cX10_hasShape 90 = .ok (.istore_n 3, 1) := dOf oX10_hasShape_0 52 rfl
theorem dX10_hasShape_91 : decode cX10_hasShape 91 = .ok (.iinc 2 1, 3) := dOf oX10_hasShape_0 53 rfl
theorem dX10_hasShape_94 : decode cX10_hasShape 94 = .ok (.iinc 4 1, 3) := dOf oX10_hasShape_0 54 rfl
theorem dX10_hasShape_97 : decode cX10_hasShape 97 = .ok (.goto (-90), 3) := dOf oX10_hasShape_0 55 rfl
theorem dX10_hasShape_100 : decode cX10_hasShape 100 = .ok (.iload_n 3, 1) := dOf oX10_hasShape_0 56 rfl
theorem dX10_hasShape_101 : decode cX10_hasShape 101 = .ok (.ifCond .eq 15, 3) := dOf oX10_hasShape_0 57 rfl
theorem dX10_hasShape_104 : decode cX10_hasShape 104 = .ok (.iload_n 2, 1) := dOf oX10_hasShape_0 58 rfl
theorem dX10_hasShape_105 : decode cX10_hasShape 105 = .ok (.aload_n 0, 1) := dOf oX10_hasShape_0 59 rfl
def eX10_hasShape_1 : List (Nat × Instr × Nat) := [(106, .getfield 256, 3), (109, .if_icmp .ne 7, 3), (112, .iconst 1, 1), (113, .goto 4, 3), (116, .iconst 0, 1), (117, .ireturn, 1)]
theorem oX10_hasShape_1 : okC cX10_hasShape eX10_hasShape_1 = true := by decide +kernel
theorem dX10_hasShape_106 : decode cX10_hasShape 106 = .ok (.getfield 256, 3) := dOf oX10_hasShape_1 0 rfl
theorem dX10_hasShape_109 : decode cX10_hasShape 109 = .ok (.if_icmp .ne 7, 3) := dOf oX10_hasShape_1 1 rfl
theorem dX10_hasShape_112 : decode cX10_hasShape 112 = .ok (.iconst 1, 1) := dOf oX10_hasShape_1 2 rfl
theorem dX10_hasShape_113 : decode cX10_hasShape 113 = .ok (.goto 4, 3) := dOf oX10_hasShape_1 3 rfl
theorem dX10_hasShape_116 : decode cX10_hasShape 116 = .ok (.iconst 0, 1) := dOf oX10_hasShape_1 4 rfl
theorem dX10_hasShape_117 : decode cX10_hasShape 117 = .ok (.ireturn, 1) := dOf oX10_hasShape_1 5 rfl
def eX10_isOdd_0 : List (Nat × Instr × Nat) := [(0, .aload_n 0, 1), (1, .aload_n 0, 1), (2, .getfield 53, 3), (5, .iconst 0, 1), (6, .iload_n 1, 1), (7, .invokevirtual 243, 3), (10, .ifCond .ne 5, 3), (13, .iconst 1, 1), (14, .ireturn, 1), (15, .aload_n 0, 1), (16, .aload_n 0, 1), (17, .getfield 31, 3), (20, .iconst 0, 1), (21, .aload_n 0, 1), (22, .getfield 150, 3), (25, .invokevirtual 262, 3), (28, .iconst 0, 1), (29, .istore_n 2, 1), (30, .iconst 0, 1), (31, .istore_n 3, 1), (32, .iload_n 3, 1), (33, .aload_n 0, 1), (34, .getfield 80, 3), (37, .if_icmp .ge 37, 3), (40, .iload_n 2, 1), (41, .ifCond .ne 21, 3), (44, .aload_n 0, 1), (45, .getfield 16, 3), (48, .iload_n 3, 1), (49, .iaload, 1), (50, .iconst 1, 1), (51, .if_icmp .ne 15, 3), (54, .aload_n 0, 1), (55, .iload_n 3, 1), (56, .invokevirtual 266, 3), (59, .ifCond .eq 7, 3), (62, .iconst 1, 1), (63, .goto 4, 3), (66, .iconst 0, 1), (67, .istore_n 2, 1), (68, .iinc 3 1, 3), (71, .goto (-39), 3), (74, .iload_n 2, 1), (75, .ifCond .ne 7, 3), (78, .iconst 1, 1), (79, .goto 4, 3), (82, .iconst 0, 1), (83, .ireturn, 1)]
theorem oX10_isOdd_0 : okC cX10_isOdd eX10_isOdd_0 = true := by decide +kernel
theorem dX10_isOdd_0 : decode cX10_isOdd 0 = .ok (.aload_n 0, 1) := dOf oX10_isOdd_0 0 rfl
theorem dX10_isOdd_1 : decode cX10_isOdd 1 = .ok (.aload_n 0, 1) := dOf oX10_isOdd_0 1 rfl
theorem dX10_isOdd_2 : decode cX10_isOdd 2 = .ok (.getfield 53, 3) := dOf oX10_isOdd_0 2 rfl
theorem dX10_isOdd_5 : decode cX10_isOdd 5 = .ok (.iconst 0, 1) := dOf oX10_isOdd_0 3 rfl
theorem dX10_isOdd_6 : decode cX10_isOdd 6 = .ok (.iload_n 1, 1) := dOf oX10_isOdd_0 4 rfl
theorem dX10_isOdd_7 : decode cX10_isOdd 7 = .ok (.invokevirtual 243, 3) := dOf oX10_isOdd_0 5 rfl
theorem dX10_isOdd_10 : decode cX10_isOdd 10 = .ok (.ifCond .ne 5, 3) := dOf oX10_isOdd_0 6 rfl
theorem dX10_isOdd_13 : decode cX10_isOdd 13 = .ok (.iconst 1, 1) := dOf oX10_isOdd_0 7 rfl
theorem dX10_isOdd_14 : decode cX10_isOdd 14 = .ok (.ireturn, 1) := dOf oX10_isOdd_0 8 rfl
theorem dX10_isOdd_15 : decode cX10_isOdd 15 = .ok (.aload_n 0, 1) := dOf oX10_isOdd_0 9 rfl
theorem dX10_isOdd_16 : decode cX10_isOdd 16 = .ok (.aload_n 0, 1) := dOf oX10_isOdd_0 10 rfl
theorem dX10_isOdd_17 : decode cX10_isOdd 17 = .ok (.getfield 31, 3) := dOf oX10_isOdd_0 11 rfl
theorem dX10_isOdd_20 : decode cX10_isOdd 20 = .ok (.iconst 0, 1) := dOf oX10_isOdd_0 12 rfl
theorem dX10_isOdd_21 : decode cX10_isOdd 21 = .ok (.aload_n 0, 1) := dOf oX10_isOdd_0 13 rfl
theorem dX10_isOdd_22 : decode cX10_isOdd 22 = .ok (.getfield 150, 3) := dOf oX10_isOdd_0 14 rfl
theorem dX10_isOdd_25 : decode cX10_isOdd 25 = .ok (.invokevirtual 262, 3) := dOf oX10_isOdd_0 15 rfl
theorem dX10_isOdd_28 : decode cX10_isOdd 28 = .ok (.iconst 0, 1) := dOf oX10_isOdd_0 16 rfl
theorem dX10_isOdd_29 : decode cX10_isOdd 29 = .ok (.istore_n 2, 1) := dOf oX10_isOdd_0 17 rfl
theorem dX10_isOdd_30 : decode cX10_isOdd 30 = .ok (.iconst 0, 1) := dOf oX10_isOdd_0 18 rfl
theorem dX10_isOdd_31 : decode cX10_isOdd 31 = .ok (.istore_n 3, 1) := dOf oX10_isOdd_0 19 rfl
theorem dX10_isOdd_32 : decode cX10_isOdd 32 = .ok (.iload_n 3, 1) := dOf oX10_isOdd_0 20 rfl
theorem dX10_isOdd_33 : decode cX10_isOdd 33 = .ok (.aload_n 0, 1) := dOf oX10_isOdd_0 21 rfl
theorem dX10_isOdd_34 : decode cX10_isOdd 34 = .ok (.getfield 80, 3) := dOf oX10_isOdd_0 22 rfl
theorem dX10_isOdd_37 : decode cX10_isOdd 37 = .ok (.if_icmp .ge 37, 3) := dOf oX10_isOdd_0 23 rfl
theorem dX10_isOdd_40 : decode cX10_isOdd 40 = .ok (.iload_n 2, 1) := dOf oX10_isOdd_0 24 rfl
theorem dX10_isOdd_41 : decode cX10_isOdd 41 = .ok (.ifCond .ne 21, 3) := dOf oX10_isOdd_0 25 rfl
theorem dX10_isOdd_44 : decode cX10_isOdd 44 = .ok (.aload_n 0, 1) := dOf oX10_isOdd_0 26 rfl
theorem dX10_isOdd_45 : decode cX10_isOdd 45 = .ok (.getfield 16, 3) := dOf oX10_isOdd_0 27 rfl
theorem dX10_isOdd_48 : decode cX10_isOdd 48 = .ok (.iload_n 3, 1) := dOf oX10_isOdd_0 28 rfl
theorem dX10_isOdd_49 : decode cX10_isOdd 49 = .ok (.iaload, 1) := dOf oX10_isOdd_0 29 rfl
theorem dX10_isOdd_50 : decode cX10_isOdd 50 = .ok (.iconst 1, 1) := dOf oX10_isOdd_0 30 rfl
theorem dX10_isOdd_51 : decode cX10_isOdd 51 = .ok (.if_icmp .ne 15, 3) := dOf oX10_isOdd_0 31 rfl
theorem dX10_isOdd_54 : decode cX10_isOdd 54 = .ok (.aload_n 0, 1) := dOf oX10_isOdd_0 32 rfl
theorem dX10_isOdd_55 : decode cX10_isOdd 55 = .ok (.iload_n 3, 1) := dOf oX10_isOdd_0 33 rfl
theorem dX10_isOdd_56 : decode cX10_isOdd 56 = .ok (.invokevirtual 266, 3) := dOf oX10_isOdd_0 34 rfl
theorem dX10_isOdd_59 : decode cX10_isOdd 59 = .ok (.ifCond .eq 7, 3) := dOf oX10_isOdd_0 35 rfl
theorem dX10_isOdd_62 : decode cX10_isOdd 62 = .ok (.iconst 1, 1) := dOf oX10_isOdd_0 36 rfl
theorem dX10_isOdd_63 : decode cX10_isOdd 63 = .ok (.goto 4, 3) := dOf oX10_isOdd_0 37 rfl
theorem dX10_isOdd_66 : decode cX10_isOdd 66 = .ok (.iconst 0, 1) := dOf oX10_isOdd_0 38 rfl
theorem dX10_isOdd_67 : decode cX10_isOdd 67 = .ok (.istore_n 2, 1) := dOf oX10_isOdd_0 39 rfl
theorem dX10_isOdd_68 : decode cX10_isOdd 68 = .ok (.iinc 3 1, 3) := dOf oX10_isOdd_0 40 rfl
theorem dX10_isOdd_71 : decode cX10_isOdd 71 = .ok (.goto (-39), 3) := dOf oX10_isOdd_0 41 rfl
theorem dX10_isOdd_74 : decode cX10_isOdd 74 = .ok (.iload_n 2, 1) := dOf oX10_isOdd_0 42 rfl
theorem dX10_isOdd_75 : decode cX10_isOdd 75 = .ok (.ifCond .ne 7, 3) := dOf oX10_isOdd_0 43 rfl
theorem dX10_isOdd_78 : decode cX10_isOdd 78 = .ok (.iconst 1, 1) := dOf oX10_isOdd_0 44 rfl
theorem dX10_isOdd_79 : decode cX10_isOdd 79 = .ok (.goto 4, 3) := dOf oX10_isOdd_0 45 rfl
theorem dX10_isOdd_82 : decode cX10_isOdd 82 = .ok (.iconst 0, 1) := dOf oX10_isOdd_0 46 rfl
theorem dX10_isOdd_83 : decode cX10_isOdd 83 = .ok (.ireturn, 1) := dOf oX10_isOdd_0 47 rfl
def eX10_odd_0 : List (Nat × Instr × Nat) := [(0, .aload_n 0, 1), (1, .iload_n 1, 1), (2, .invokevirtual 105, 3), (5, .ifCond .ne 5, 3), (8, .iconst (-1), 1), (9, .ireturn, 1), (10, .aload_n 0, 1), (11, .invokevirtual 235, 3), (14, .istore_n 2, 1), (15, .iload_n 2, 1), (16, .ifCond .ge 7, 3), (19, .iload_n 2, 1), (20, .goto 16, 3), (23, .aload_n 0, 1), (24, .iload_n 1, 1), (25, .invokevirtual 269, 3), (28, .ifCond .eq 7, 3), (31, .iconst 1, 1), (32, .goto 4, 3), (35, .iconst 0, 1), (36, .ireturn, 1)]
theorem oX10_odd_0 : okC cX10_odd eX10_odd_0 = true := by decide +kernel
theorem dX10_odd_0 : decode cX10_odd 0 = .ok (.aload_n 0, 1) := dOf oX10_odd_0 0 rfl
theorem dX10_odd_1 : decode cX10_odd 1 = .ok (.iload_n 1, 1) := dOf oX10_odd_0 1 rfl
theorem dX10_odd_2 : decode cX10_odd 2 = .ok (.invokevirtual 105, 3) := dOf oX10_odd_0 2 rfl
theorem dX10_odd_5 : decode cX10_odd 5 = .ok (.ifCond .ne 5, 3) := dOf oX10_odd_0 3 rfl
theorem dX10_odd_8 : decode cX10_odd 8 = .ok (.iconst (-1), 1) := dOf oX10_odd_0 4 rfl
theorem dX10_odd_9 : decode cX10_odd 9 = .ok (.ireturn, 1) := dOf oX10_odd_0 5 rfl
theorem dX10_odd_10 : decode cX10_odd 10 = .ok (.aload_n 0, 1) := dOf oX10_odd_0 6 rfl
theorem dX10_odd_11 : decode cX10_odd 11 = .ok (.invokevirtual 235, 3) := dOf oX10_odd_0 7 rfl
theorem dX10_odd_14 : decode cX10_odd 14 = .ok (.istore_n 2, 1) := dOf oX10_odd_0 8 rfl
theorem dX10_odd_15 : decode cX10_odd 15 = .ok (.iload_n 2, 1) := dOf oX10_odd_0 9 rfl
theorem dX10_odd_16 : decode cX10_odd 16 = .ok (.ifCond .ge 7, 3) := dOf oX10_odd_0 10 rfl
theorem dX10_odd_19 : decode cX10_odd 19 = .ok (.iload_n 2, 1) := dOf oX10_odd_0 11 rfl
theorem dX10_odd_20 : decode cX10_odd 20 = .ok (.goto 16, 3) := dOf oX10_odd_0 12 rfl
theorem dX10_odd_23 : decode cX10_odd 23 = .ok (.aload_n 0, 1) := dOf oX10_odd_0 13 rfl
theorem dX10_odd_24 : decode cX10_odd 24 = .ok (.iload_n 1, 1) := dOf oX10_odd_0 14 rfl
theorem dX10_odd_25 : decode cX10_odd 25 = .ok (.invokevirtual 269, 3) := dOf oX10_odd_0 15 rfl
theorem dX10_odd_28 : decode cX10_odd 28 = .ok (.ifCond .eq 7, 3) := dOf oX10_odd_0 16 rfl
theorem dX10_odd_31 : decode cX10_odd 31 = .ok (.iconst 1, 1) := dOf oX10_odd_0 17 rfl
theorem dX10_odd_32 : decode cX10_odd 32 = .ok (.goto 4, 3) := dOf oX10_odd_0 18 rfl
theorem dX10_odd_35 : decode cX10_odd 35 = .ok (.iconst 0, 1) := dOf oX10_odd_0 19 rfl
theorem dX10_odd_36 : decode cX10_odd 36 = .ok (.ireturn, 1) := dOf oX10_odd_0 20 rfl
def eX10_ones_0 : List (Nat × Instr × Nat) := [(0, .iconst 0, 1), (1, .istore_n 1, 1), (2, .iload_n 0, 1), (3, .istore_n 2, 1), (4, .iload_n 2, 1), (5, .ifCond .eq 15, 3), (8, .iinc 1 1, 3), (11, .iload_n 2, 1), (12, .iload_n 2, 1), (13, .iconst 1, 1), (14, .isub, 1), (15, .iand, 1), (16, .istore_n 2, 1), (17, .goto (-13), 3), (20, .iload_n 1, 1), (21, .ireturn, 1)]
theorem oX10_ones_0 : okC cX10_ones eX10_ones_0 = true := by decide +kernel
theorem dX10_ones_0 : decode cX10_ones 0 = .ok (.iconst 0, 1) := dOf oX10_ones_0 0 rfl
theorem dX10_ones_1 : decode cX10_ones 1 = .ok (.istore_n 1, 1) := dOf oX10_ones_0 1 rfl
theorem dX10_ones_2 : decode cX10_ones 2 = .ok (.iload_n 0, 1) := dOf oX10_ones_0 2 rfl
theorem dX10_ones_3 : decode cX10_ones 3 = .ok (.istore_n 2, 1) := dOf oX10_ones_0 3 rfl
theorem dX10_ones_4 : decode cX10_ones 4 = .ok (.iload_n 2, 1) := dOf oX10_ones_0 4 rfl
theorem dX10_ones_5 : decode cX10_ones 5 = .ok (.ifCond .eq 15, 3) := dOf oX10_ones_0 5 rfl
theorem dX10_ones_8 : decode cX10_ones 8 = .ok (.iinc 1 1, 3) := dOf oX10_ones_0 6 rfl
theorem dX10_ones_11 : decode cX10_ones 11 = .ok (.iload_n 2, 1) := dOf oX10_ones_0 7 rfl
theorem dX10_ones_12 : decode cX10_ones 12 = .ok (.iload_n 2, 1) := dOf oX10_ones_0 8 rfl
theorem dX10_ones_13 : decode cX10_ones 13 = .ok (.iconst 1, 1) := dOf oX10_ones_0 9 rfl
theorem dX10_ones_14 : decode cX10_ones 14 = .ok (.isub, 1) := dOf oX10_ones_0 10 rfl
theorem dX10_ones_15 : decode cX10_ones 15 = .ok (.iand, 1) := dOf oX10_ones_0 11 rfl
theorem dX10_ones_16 : decode cX10_ones 16 = .ok (.istore_n 2, 1) := dOf oX10_ones_0 12 rfl
theorem dX10_ones_17 : decode cX10_ones 17 = .ok (.goto (-13), 3) := dOf oX10_ones_0 13 rfl
theorem dX10_ones_20 : decode cX10_ones 20 = .ok (.iload_n 1, 1) := dOf oX10_ones_0 14 rfl
theorem dX10_ones_21 : decode cX10_ones 21 = .ok (.ireturn, 1) := dOf oX10_ones_0 15 rfl
def eX10_fitsBut_0 : List (Nat × Instr × Nat) := [(0, .aload_n 0, 1), (1, .iload_n 1, 1), (2, .invokevirtual 205, 3), (5, .aload_n 0, 1), (6, .getfield 164, 3), (9, .ifCond .ne 5, 3), (12, .iconst 1, 1), (13, .ireturn, 1), (14, .aload_n 0, 1), (15, .invokevirtual 209, 3), (18, .aload_n 0, 1), (19, .iconst 1, 1), (20, .invokevirtual 212, 3), (23, .lconst 0, 1), (24, .lcmp, 1), (25, .ifCond .gt 23, 3), (28, .aload_n 0, 1), (29, .iconst 2, 1), (30, .invokevirtual 212, 3), (33, .lconst 0, 1), (34, .lcmp, 1), (35, .ifCond .gt 13, 3), (38, .aload_n 0, 1), (39, .iconst 3, 1), (40, .invokevirtual 212, 3), (43, .lconst 0, 1), (44, .lcmp, 1), (45, .ifCond .le 7, 3), (48, .iconst 1, 1), (49, .goto 4, 3), (52, .iconst 0, 1), (53, .ireturn, 1)]
theorem oX10_fitsBut_0 : okC cX10_fitsBut eX10_fitsBut_0 = true := by decide +kernel
theorem dX10_fitsBut_0 : decode cX10_fitsBut 0 = .ok (.aload_n 0, 1) := dOf oX10_fitsBut_0 0 rfl
theorem dX10_fitsBut_1 : decode cX10_fitsBut 1 = .ok (.iload_n 1, 1) := dOf oX10_fitsBut_0 1 rfl
theorem dX10_fitsBut_2 : decode cX10_fitsBut 2 = .ok (.invokevirtual 205, 3) := dOf oX10_fitsBut_0 2 rfl
theorem dX10_fitsBut_5 : decode cX10_fitsBut 5 = .ok (.aload_n 0, 1) := dOf oX10_fitsBut_0 3 rfl
theorem dX10_fitsBut_6 : decode cX10_fitsBut 6 = .ok (.getfield 164, 3) := dOf oX10_fitsBut_0 4 rfl
theorem dX10_fitsBut_9 : decode cX10_fitsBut 9 = .ok (.ifCond .ne 5, 3) := dOf oX10_fitsBut_0 5 rfl
theorem dX10_fitsBut_12 : decode cX10_fitsBut 12 = .ok (.iconst 1, 1) := dOf oX10_fitsBut_0 6 rfl
theorem dX10_fitsBut_13 : decode cX10_fitsBut 13 = .ok (.ireturn, 1) := dOf oX10_fitsBut_0 7 rfl
theorem dX10_fitsBut_14 : decode cX10_fitsBut 14 = .ok (.aload_n 0, 1) := dOf oX10_fitsBut_0 8 rfl
theorem dX10_fitsBut_15 : decode cX10_fitsBut 15 = .ok (.invokevirtual 209, 3) := dOf oX10_fitsBut_0 9 rfl
theorem dX10_fitsBut_18 : decode cX10_fitsBut 18 = .ok (.aload_n 0, 1) := dOf oX10_fitsBut_0 10 rfl
theorem dX10_fitsBut_19 : decode cX10_fitsBut 19 = .ok (.iconst 1, 1) := dOf oX10_fitsBut_0 11 rfl
theorem dX10_fitsBut_20 : decode cX10_fitsBut 20 = .ok (.invokevirtual 212, 3) := dOf oX10_fitsBut_0 12 rfl
theorem dX10_fitsBut_23 : decode cX10_fitsBut 23 = .ok (.lconst 0, 1) := dOf oX10_fitsBut_0 13 rfl
theorem dX10_fitsBut_24 : decode cX10_fitsBut 24 = .ok (.lcmp, 1) := dOf oX10_fitsBut_0 14 rfl
theorem dX10_fitsBut_25 : decode cX10_fitsBut 25 = .ok (.ifCond .gt 23, 3) := dOf oX10_fitsBut_0 15 rfl
theorem dX10_fitsBut_28 : decode cX10_fitsBut 28 = .ok (.aload_n 0, 1) := dOf oX10_fitsBut_0 16 rfl
theorem dX10_fitsBut_29 : decode cX10_fitsBut 29 = .ok (.iconst 2, 1) := dOf oX10_fitsBut_0 17 rfl
theorem dX10_fitsBut_30 : decode cX10_fitsBut 30 = .ok (.invokevirtual 212, 3) := dOf oX10_fitsBut_0 18 rfl
theorem dX10_fitsBut_33 : decode cX10_fitsBut 33 = .ok (.lconst 0, 1) := dOf oX10_fitsBut_0 19 rfl
theorem dX10_fitsBut_34 : decode cX10_fitsBut 34 = .ok (.lcmp, 1) := dOf oX10_fitsBut_0 20 rfl
theorem dX10_fitsBut_35 : decode cX10_fitsBut 35 = .ok (.ifCond .gt 13, 3) := dOf oX10_fitsBut_0 21 rfl
theorem dX10_fitsBut_38 : decode cX10_fitsBut 38 = .ok (.aload_n 0, 1) := dOf oX10_fitsBut_0 22 rfl
theorem dX10_fitsBut_39 : decode cX10_fitsBut 39 = .ok (.iconst 3, 1) := dOf oX10_fitsBut_0 23 rfl
theorem dX10_fitsBut_40 : decode cX10_fitsBut 40 = .ok (.invokevirtual 212, 3) := dOf oX10_fitsBut_0 24 rfl
theorem dX10_fitsBut_43 : decode cX10_fitsBut 43 = .ok (.lconst 0, 1) := dOf oX10_fitsBut_0 25 rfl
theorem dX10_fitsBut_44 : decode cX10_fitsBut 44 = .ok (.lcmp, 1) := dOf oX10_fitsBut_0 26 rfl
theorem dX10_fitsBut_45 : decode cX10_fitsBut 45 = .ok (.ifCond .le 7, 3) := dOf oX10_fitsBut_0 27 rfl
theorem dX10_fitsBut_48 : decode cX10_fitsBut 48 = .ok (.iconst 1, 1) := dOf oX10_fitsBut_0 28 rfl
theorem dX10_fitsBut_49 : decode cX10_fitsBut 49 = .ok (.goto 4, 3) := dOf oX10_fitsBut_0 29 rfl
theorem dX10_fitsBut_52 : decode cX10_fitsBut 52 = .ok (.iconst 0, 1) := dOf oX10_fitsBut_0 30 rfl
theorem dX10_fitsBut_53 : decode cX10_fitsBut 53 = .ok (.ireturn, 1) := dOf oX10_fitsBut_0 31 rfl
