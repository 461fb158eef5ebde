def eX7_readDistance_0 : List (Nat × Instr × Nat) := [(0, .aload_n 0, 1), (1, .invokevirtual 42, 3), (4, .istore_n 2, 1), (5, .iload_n 2, 1), (6, .bipush 48, 2), (8, .if_icmp .lt 9, 3), (11, .iload_n 2, 1), (12, .bipush 55, 2), (14, .if_icmp .le 5, 3), (17, .iconst (-1), 1), (18, .ireturn, 1), (19, .aload_n 0, 1), (20, .dup, 1), (21, .getfield 27, 3), (24, .iconst 1, 1), (25, .iadd, 1), (26, .putfield 27, 3), (29, .iload_n 1, 1), (30, .iload_n 2, 1), (31, .iadd, 1), (32, .bipush 48, 2), (34, .isub, 1), (35, .ireturn, 1)]
theorem oX7_readDistance_0 : okC cX7_readDistance eX7_readDistance_0 = true := by decide +kernel
theorem dX7_readDistance_0 : decode cX7_readDistance 0 = .ok (.aload_n 0, 1) := dOf oX7_readDistance_0 0 rfl
theorem dX7_readDistance_1 : decode cX7_readDistance 1 = .ok (.invokevirtual 42, 3) := dOf oX7_readDistance_0 1 rfl
theorem dX7_readDistance_4 : decode cX7_readDistance 4 = .ok (.istore_n 2, 1) := dOf oX7_readDistance_0 2 rfl
theorem dX7_readDistance_5 : decode cX7_readDistance 5 = .ok (.iload_n 2, 1) := dOf oX7_readDistance_0 3 rfl
theorem dX7_readDistance_6 : decode cX7_readDistance 6 = .ok (.bipush 48, 2) := dOf oX7_readDistance_0 4 rfl
theorem dX7_readDistance_8 : decode cX7_readDistance 8 = .ok (.if_icmp .lt 9, 3) := dOf oX7_readDistance_0 5 rfl
theorem dX7_readDistance_11 : decode cX7_readDistance 11 = .ok (.iload_n 2, 1) := dOf oX7_readDistance_0 6 rfl
theorem dX7_readDistance_12 : decode cX7_readDistance 12 = .ok (.bipush 55, 2) := dOf oX7_readDistance_0 7 rfl
theorem dX7_readDistance_14 : decode cX7_readDistance 14 = .ok (.if_icmp .le 5, 3) := dOf oX7_readDistance_0 8 rfl
theorem dX7_readDistance_17 : decode cX7_readDistance 17 = .ok (.iconst (-1), 1) := dOf oX7_readDistance_0 9 rfl
theorem dX7_readDistance_18 : decode cX7_readDistance 18 = .ok (.ireturn, 1) := dOf oX7_readDistance_0 10 rfl
theorem dX7_readDistance_19 : decode cX7_readDistance 19 = .ok (.aload_n 0, 1) := dOf oX7_readDistance_0 11 rfl
theorem dX7_readDistance_20 : decode cX7_readDistance 20 = .ok (.dup, 1) := dOf oX7_readDistance_0 12 rfl
theorem dX7_readDistance_21 : decode cX7_readDistance 21 = .ok (.getfield 27, 3) := dOf oX7_readDistance_0 13 rfl
theorem dX7_readDistance_24 : decode cX7_readDistance 24 = .ok (.iconst 1, 1) := dOf oX7_readDistance_0 14 rfl
theorem dX7_readDistance_25 : decode cX7_readDistance 25 = .ok (.iadd, 1) := dOf oX7_readDistance_0 15 rfl
theorem dX7_readDistance_26 : decode cX7_readDistance 26 = .ok (.putfield 27, 3) := dOf oX7_readDistance_0 16 rfl
theorem dX7_readDistance_29 : decode cX7_readDistance 29 = .ok (.iload_n 1, 1) := dOf oX7_readDistance_0 17 rfl
theorem dX7_readDistance_30 : decode cX7_readDistance 30 = .ok (.iload_n 2, 1) := dOf oX7_readDistance_0 18 rfl
theorem dX7_readDistance_31 : decode cX7_readDistance 31 = .ok (.iadd, 1) := dOf oX7_readDistance_0 19 rfl
theorem dX7_readDistance_32 : decode cX7_readDistance 32 = .ok (.bipush 48, 2) := dOf oX7_readDistance_0 20 rfl
theorem dX7_readDistance_34 : decode cX7_readDistance 34 = .ok (.isub, 1) := dOf oX7_readDistance_0 21 rfl
theorem dX7_readDistance_35 : decode cX7_readDistance 35 = .ok (.ireturn, 1) := dOf oX7_readDistance_0 22 rfl
def eX7_readRun_0 : List (Nat × Instr × Nat) := [(0, .ldc 85, 2), (2, .aload_n 0, 1), (3, .invokevirtual 42, 3), (6, .i2c, 1), (7, .invokevirtual 87, 3), (10, .istore_n 2, 1), (11, .iload_n 2, 1), (12, .ifCond .ge 5, 3), (15, .iconst (-1), 1), (16, .ireturn, 1), (17, .aload_n 0, 1), (18, .dup, 1), (19, .getfield 27, 3), (22, .iconst 1, 1), (23, .iadd, 1), (24, .putfield 27, 3), (27, .ldc 92, 2), (29, .aload_n 0, 1), (30, .invokevirtual 42, 3), (33, .i2c, 1), (34, .invokevirtual 87, 3), (37, .istore_n 3, 1), (38, .iload_n 3, 1), (39, .ifCond .ge 5, 3), (42, .iconst (-1), 1), (43, .ireturn, 1), (44, .aload_n 0, 1), (45, .dup, 1), (46, .getfield 27, 3), (49, .iconst 1, 1), (50, .iadd, 1), (51, .putfield 27, 3), (54, .bipush 16, 2), (56, .bipush 6, 2), (58, .iload_n 2, 1), (59, .imul, 1), (60, .iadd, 1), (61, .iload_n 1, 1), (62, .iadd, 1), (63, .iload_n 3, 1), (64, .iadd, 1), (65, .ireturn, 1)]
theorem oX7_readRun_0 : okC cX7_readRun eX7_readRun_0 = true := by decide +kernel
theorem dX7_readRun_0 : decode cX7_readRun 0 = .ok (.ldc 85, 2) := dOf oX7_readRun_0 0 rfl
theorem dX7_readRun_2 : decode cX7_readRun 2 = .ok (.aload_n 0, 1) := dOf oX7_readRun_0 1 rfl
theorem dX7_readRun_3 : decode cX7_readRun 3 = .ok (.invokevirtual 42, 3) := dOf oX7_readRun_0 2 rfl
theorem dX7_readRun_6 : decode cX7_readRun 6 = .ok (.i2c, 1) := dOf oX7_readRun_0 3 rfl
theorem dX7_readRun_7 : decode cX7_readRun 7 = .ok (.invokevirtual 87, 3) := dOf oX7_readRun_0 4 rfl
theorem dX7_readRun_10 : decode cX7_readRun 10 = .ok (.istore_n 2, 1) := dOf oX7_readRun_0 5 rfl
theorem dX7_readRun_11 : decode cX7_readRun 11 = .ok (.iload_n 2, 1) := dOf oX7_readRun_0 6 rfl
theorem dX7_readRun_12 : decode cX7_readRun 12 = .ok (.ifCond .ge 5, 3) := dOf oX7_readRun_0 7 rfl
theorem dX7_readRun_15 : decode cX7_readRun 15 = .ok (.iconst (-1), 1) := dOf oX7_readRun_0 8 rfl
theorem dX7_readRun_16 : decode cX7_readRun 16 = .ok (.ireturn, 1) := dOf oX7_readRun_0 9 rfl
theorem dX7_readRun_17 : decode cX7_readRun 17 = .ok (.aload_n 0, 1) := dOf oX7_readRun_0 10 rfl
theorem dX7_readRun_18 : decode cX7_readRun 18 = .ok (.dup, 1) := dOf oX7_readRun_0 11 rfl
theorem dX7_readRun_19 : decode cX7_readRun 19 = .ok (.getfield 27, 3) := dOf oX7_readRun_0 12 rfl
theorem dX7_readRun_22 : decode cX7_readRun 22 = .ok (.iconst 1, 1) := dOf oX7_readRun_0 13 rfl
theorem dX7_readRun_23 : decode cX7_readRun 23 = .ok (.iadd, 1) := dOf oX7_readRun_0 14 rfl
theorem dX7_readRun_24 : decode cX7_readRun 24 = .ok (.putfield 27, 3) := dOf oX7_readRun_0 15 rfl
theorem dX7_readRun_27 : decode cX7_readRun 27 = .ok (.ldc 92, 2) := dOf oX7_readRun_0 16 rfl
theorem dX7_readRun_29 : decode cX7_readRun 29 = .ok (.aload_n 0, 1) := dOf oX7_readRun_0 17 rfl
theorem dX7_readRun_30 : decode cX7_readRun 30 = .ok (.invokevirtual 42, 3) := dOf oX7_readRun_0 18 rfl
theorem dX7_readRun_33 : decode cX7_readRun 33 = .ok (.i2c, 1) := dOf oX7_readRun_0 19 rfl
theorem dX7_readRun_34 : decode cX7_readRun 34 = .ok (.invokevirtual 87, 3) := dOf oX7_readRun_0 20 rfl
theorem dX7_readRun_37 : decode cX7_readRun 37 = .ok (.istore_n 3, 1) := dOf oX7_readRun_0 21 rfl
theorem dX7_readRun_38 : decode cX7_readRun 38 = .ok (.iload_n 3, 1) := dOf oX7_readRun_0 22 rfl
theorem dX7_readRun_39 : decode cX7_readRun 39 = .ok (.ifCond .ge 5, 3) := dOf oX7_readRun_0 23 rfl
theorem dX7_readRun_42 : decode cX7_readRun 42 = .ok (.iconst (-1), 1) := dOf oX7_readRun_0 24 rfl
theorem dX7_readRun_43 : decode cX7_readRun 43 = .ok (.ireturn, 1) := dOf oX7_readRun_0 25 rfl
theorem dX7_readRun_44 : decode cX7_readRun 44 = .ok (.aload_n 0, 1) := dOf oX7_readRun_0 26 rfl
theorem dX7_readRun_45 : decode cX7_readRun 45 = .ok (.dup, 1) := dOf oX7_readRun_0 27 rfl
theorem dX7_readRun_46 : decode cX7_readRun 46 = .ok (.getfield 27, 3) := dOf oX7_readRun_0 28 rfl
theorem dX7_readRun_49 : decode cX7_readRun 49 = .ok (.iconst 1, 1) := dOf oX7_readRun_0 29 rfl
theorem dX7_readRun_50 : decode cX7_readRun 50 = .ok (.iadd, 1) := dOf oX7_readRun_0 30 rfl
theorem dX7_readRun_51 : decode cX7_readRun 51 = .ok (.putfield 27, 3) := dOf oX7_readRun_0 31 rfl
theorem dX7_readRun_54 : decode cX7_readRun 54 = .ok (.bipush 16, 2) := dOf oX7_readRun_0 32 rfl
theorem dX7_readRun_56 : decode cX7_readRun 56 = .ok (.bipush 6, 2) := dOf oX7_readRun_0 33 rfl
theorem dX7_readRun_58 : decode cX7_readRun 58 = .ok (.iload_n 2, 1) := dOf oX7_readRun_0 34 rfl
theorem dX7_readRun_59 : decode cX7_readRun 59 = .ok (.imul, 1) := dOf oX7_readRun_0 35 rfl
theorem dX7_readRun_60 : decode cX7_readRun 60 = .ok (.iadd, 1) := dOf oX7_readRun_0 36 rfl
theorem dX7_readRun_61 : decode cX7_readRun 61 = .ok (.iload_n 1, 1) := dOf oX7_readRun_0 37 rfl
theorem dX7_readRun_62 : decode cX7_readRun 62 = .ok (.iadd, 1) := dOf oX7_readRun_0 38 rfl
theorem dX7_readRun_63 : decode cX7_readRun 63 = .ok (.iload_n 3, 1) := dOf oX7_readRun_0 39 rfl
theorem dX7_readRun_64 : decode cX7_readRun 64 = .ok (.iadd, 1) := dOf oX7_readRun_0 40 rfl
theorem dX7_readRun_65 : decode cX7_readRun 65 = .ok (.ireturn, 1) := dOf oX7_readRun_0 41 rfl
def eX8_init_0 : List (Nat × Instr × Nat) := [(0, .aload_n 0, 1), (1, .invokespecial 3, 3), (4, .aload_n 0, 1), (5, .new 9, 3), (8, .dup, 1), (9, .bipush 16, 2), (11, .invokespecial 11, 3), (14, .putfield 14, 3), (17, .aload_n 0, 1), (18, .bipush 40, 2), (20, .newarray .int, 2), (22, .putfield 20, 3), (25, .aload_n 0, 1), (26, .new 9, 3), (29, .dup, 1), (30, .bipush 35, 2), (32, .invokespecial 11, 3), (35, .putfield 24, 3), (38, .aload_n 0, 1), (39, .iconst 0, 1), (40, .putfield 27, 3), (43, .aload_n 0, 1), (44, .sipush 289, 3), (47, .newarray .byte, 2), (49, .putfield 31, 3), (52, .return_, 1)]
theorem oX8_init_0 : okC cX8_init eX8_init_0 = true := by decide +kernel
theorem dX8_init_0 : decode cX8_init 0 = .ok (.aload_n 0, 1) := dOf oX8_init_0 0 rfl
theorem dX8_init_1 : decode cX8_init 1 = .ok (.invokespecial 3, 3) := dOf oX8_init_0 1 rfl
theorem dX8_init_4 : decode cX8_init 4 = .ok (.aload_n 0, 1) := dOf oX8_init_0 2 rfl
theorem dX8_init_5 : decode cX8_init 5 = .ok (.new 9, 3) := dOf oX8_init_0 3 rfl
theorem dX8_init_8 : decode cX8_init 8 = .ok (.dup, 1) := dOf oX8_init_0 4 rfl
theorem dX8_init_9 : decode cX8_init 9 = .ok (.bipush 16, 2) := dOf oX8_init_0 5 rfl
theorem dX8_init_11 : decode cX8_init 11 = .ok (.invokespecial 11, 3) := dOf oX8_init_0 6 rfl
theorem dX8_init_14 : decode cX8_init 14 = .ok (.putfield 14, 3) := dOf oX8_init_0 7 rfl
theorem dX8_init_17 : decode cX8_init 17 = .ok (.aload_n 0, 1) := dOf oX8_init_0 8 rfl
theorem dX8_init_18 : decode cX8_init 18 = .ok (.bipush 40, 2) := dOf oX8_init_0 9 rfl
theorem dX8_init_20 : decode cX8_init 20 = .ok (.newarray .int, 2) := dOf oX8_init_0 10 rfl
theorem dX8_init_22 : decode cX8_init 22 = .ok (.putfield 20, 3) := dOf oX8_init_0 11 rfl
theorem dX8_init_25 : decode cX8_init 25 = .ok (.aload_n 0, 1) := dOf oX8_init_0 12 rfl
theorem dX8_init_26 : decode cX8_init 26 = .ok (.new 9, 3) := dOf oX8_init_0 13 rfl
theorem dX8_init_29 : decode cX8_init 29 = .ok (.dup, 1) := dOf oX8_init_0 14 rfl
theorem dX8_init_30 : decode cX8_init 30 = .ok (.bipush 35, 2) := dOf oX8_init_0 15 rfl
theorem dX8_init_32 : decode cX8_init 32 = .ok (.invokespecial 11, 3) := dOf oX8_init_0 16 rfl
theorem dX8_init_35 : decode cX8_init 35 = .ok (.putfield 24, 3) := dOf oX8_init_0 17 rfl
theorem dX8_init_38 : decode cX8_init 38 = .ok (.aload_n 0, 1) := dOf oX8_init_0 18 rfl
theorem dX8_init_39 : decode cX8_init 39 = .ok (.iconst 0, 1) := dOf oX8_init_0 19 rfl
theorem dX8_init_40 : decode cX8_init 40 = .ok (.putfield 27, 3) := dOf oX8_init_0 20 rfl
theorem dX8_init_43 : decode cX8_init 43 = .ok (.aload_n 0, 1) := dOf oX8_init_0 21 rfl
theorem dX8_init_44 : decode cX8_init 44 = .ok (.sipush 289, 3) := dOf oX8_init_0 22 rfl
theorem dX8_init_47 : decode cX8_init 47 = .ok (.newarray .byte, 2) := dOf oX8_init_0 23 rfl
theorem dX8_init_49 : decode cX8_init 49 = .ok (.putfield 31, 3) := dOf oX8_init_0 24 rfl
theorem dX8_init_52 : decode cX8_init 52 = .ok (.return_, 1) := dOf oX8_init_0 25 rfl
def eX8_findPlaces_0 : List (Nat × Instr × Nat) := [(0, .aload_n 0, 1), (1, .getfield 14, 3), (4, .getfield 35, 3), (7, .istore_n 1, 1), (8, .iconst 0, 1), (9, .istore_n 2, 1), (10, .iload_n 2, 1), (11, .bipush 8, 2), (13, .if_icmp .ge 46, 3), (16, .aload_n 0, 1), (17, .getfield 20, 3), (20, .iload_n 2, 1), (21, .iload_n 2, 1), (22, .iload_n 1, 1), (23, .if_icmp .gt 7, 3), (26, .iload_n 2, 1), (27, .goto 4, 3), (30, .iconst (-1), 1), (31, .iastore, 1), (32, .aload_n 0, 1), (33, .getfield 20, 3), (36, .bipush 8, 2), (38, .iload_n 2, 1), (39, .iadd, 1), (40, .iload_n 2, 1), (41, .iload_n 1, 1), (42, .if_icmp .gt 9, 3), (45, .iload_n 1, 1), (46, .iload_n 2, 1), (47, .isub, 1), (48, .goto 4, 3), (51, .iconst (-1), 1), (52, .iastore, 1), (53, .iinc 2 1, 3), (56, .goto (-46), 3), (59, .iconst 0, 1), (60, .istore_n 2, 1), (61, .iload_n 2, 1), (62, .iconst 3, 1), (63, .if_icmp .gt 21, 3), (66, .aload_n 0, 1), (67, .iload_n 2, 1), (68, .bipush 16, 2), (70, .bipush 6, 2), (72, .iload_n 2, 1), (73, .imul, 1), (74, .iadd, 1), (75, .invokevirtual 40, 3), (78, .iinc 2 1, 3), (81, .goto (-20), 3), (84, .return_, 1)]
theorem oX8_findPlaces_0 : okC cX8_findPlaces eX8_findPlaces_0 = true := by decide +kernel
theorem dX8_findPlaces_0 : decode cX8_findPlaces 0 = .ok (.aload_n 0, 1) := dOf oX8_findPlaces_0 0 rfl
theorem dX8_findPlaces_1 : decode cX8_findPlaces 1 = .ok (.getfield 14, 3) := dOf oX8_findPlaces_0 1 rfl
theorem dX8_findPlaces_4 : decode cX8_findPlaces 4 = .ok (.getfield 35, 3) := dOf oX8_findPlaces_0 2 rfl
theorem dX8_findPlaces_7 : decode cX8_findPlaces 7 = .ok (.istore_n 1, 1) := dOf oX8_findPlaces_0 3 rfl
theorem dX8_findPlaces_8 : decode cX8_findPlaces 8 = .ok (.iconst 0, 1) := dOf oX8_findPlaces_0 4 rfl
theorem dX8_findPlaces_9 : decode cX8_findPlaces 9 = .ok (.istore_n 2, 1) := dOf oX8_findPlaces_0 5 rfl
theorem dX8_findPlaces_10 : decode cX8_findPlaces 10 = .ok (.iload_n 2, 1) := dOf oX8_findPlaces_0 6 rfl
theorem dX8_findPlaces_11 : decode cX8_findPlaces 11 = .ok (.bipush 8, 2) := dOf oX8_findPlaces_0 7 rfl
theorem dX8_findPlaces_13 : decode cX8_findPlaces 13 = .ok (.if_icmp .ge 46, 3) := dOf oX8_findPlaces_0 8 rfl
theorem dX8_findPlaces_16 : decode cX8_findPlaces 16 = .ok (.aload_n 0, 1) := dOf oX8_findPlaces_0 9 rfl
theorem dX8_findPlaces_17 : decode cX8_findPlaces 17 = .ok (.getfield 20, 3) := dOf oX8_findPlaces_0 10 rfl
theorem dX8_findPlaces_20 : decode cX8_findPlaces 20 = .ok (.iload_n 2, 1) := dOf oX8_findPlaces_0 11 rfl
theorem dX8_findPlaces_21 : decode cX8_findPlaces 21 = .ok (.iload_n 2, 1) := dOf oX8_findPlaces_0 12 rfl
theorem dX8_findPlaces_22 : decode cX8_findPlaces 22 = .ok (.iload_n 1, 1) := dOf oX8_findPlaces_0 13 rfl
theorem dX8_findPlaces_23 : decode cX8_findPlaces 23 = .ok (.if_icmp .gt 7, 3) := dOf oX8_findPlaces_0 14 rfl
theorem dX8_findPlaces_26 : decode cX8_findPlaces 26 = .ok (.iload_n 2, 1) := dOf oX8_findPlaces_0 15 rfl
theorem dX8_findPlaces_27 : decode cX8_findPlaces 27 = .ok (.goto 4, 3) := dOf oX8_findPlaces_0 16 rfl
theorem dX8_findPlaces_30 : decode cX8_findPlaces 30 = .ok (.iconst (-1), 1) := dOf oX8_findPlaces_0 17 rfl
theorem dX8_findPlaces_31 : decode cX8_findPlaces 31 = .ok (.iastore, 1) := dOf oX8_findPlaces_0 18 rfl
theorem dX8_findPlaces_32 : decode cX8_findPlaces 32 = .ok (.aload_n 0, 1) := dOf oX8_findPlaces_0 19 rfl
theorem dX8_findPlaces_33 : decode cX8_findPlaces 33 = .ok (.getfield 20, 3) := dOf oX8_findPlaces_0 20 rfl
theorem dX8_findPlaces_36 : decode cX8_findPlaces 36 = .ok (.bipush 8, 2) := dOf oX8_findPlaces_0 21 rfl
theorem dX8_findPlaces_38 : decode cX8_findPlaces 38 = .ok (.iload_n 2, 1) := dOf oX8_findPlaces_0 22 rfl
theorem dX8_findPlaces_39 : decode cX8_findPlaces 39 = .ok (.iadd, 1) := dOf oX8_findPlaces_0 23 rfl
theorem dX8_findPlaces_40 : decode cX8_findPlaces 40 = .ok (.iload_n 2, 1) := dOf oX8_findPlaces_0 24 rfl
theorem dX8_findPlaces_41 : decode cX8_findPlaces 41 = .ok (.iload_n 1, 1) := dOf oX8_findPlaces_0 25 rfl
theorem dX8_findPlaces_42 : decode cX8_findPlaces 42 = .ok (.if_icmp .gt 9, 3) := dOf oX8_findPlaces_0 26 rfl
theorem dX8_findPlaces_45 : decode cX8_findPlaces 45 = .ok (.iload_n 1, 1) := dOf oX8_findPlaces_0 27 rfl
theorem dX8_findPlaces_46 : decode cX8_findPlaces 46 = .ok (.iload_n 2, 1) := dOf oX8_findPlaces_0 28 rfl
theorem dX8_findPlaces_47 : decode cX8_findPlaces 47 = .ok (.isub, 1) := dOf oX8_findPlaces_0 29 rfl
theorem dX8_findPlaces_48 : decode cX8_findPlaces 48 = .ok (.goto 4, 3) := dOf oX8_findPlaces_0 30 rfl
theorem dX8_findPlaces_51 : decode cX8_findPlaces 51 = .ok (.iconst (-1), 1) := dOf oX8_findPlaces_0 31 rfl
theorem dX8_findPlaces_52 : decode cX8_findPlaces 52 = .ok (.iastore, 1) := dOf oX8_findPlaces_0 32 rfl
theorem dX8_findPlaces_53 : decode cX8_findPlaces 53 = .ok (.iinc 2 1, 3) := dOf oX8_findPlaces_0 33 rfl
theorem dX8_findPlaces_56 : decode cX8_findPlaces 56 = .ok (.goto (-46), 3) := dOf oX8_findPlaces_0 34 rfl
theorem dX8_findPlaces_59 : decode cX8_findPlaces 59 = .ok (.iconst 0, 1) := dOf oX8_findPlaces_0 35 rfl
theorem dX8_findPlaces_60 : decode cX8_findPlaces 60 = .ok (.istore_n 2, 1) := dOf oX8_findPlaces_0 36 rfl
theorem dX8_findPlaces_61 : decode cX8_findPlaces 61 = .ok (.iload_n 2, 1) := dOf oX8_findPlaces_0 37 rfl
theorem dX8_findPlaces_62 : decode cX8_findPlaces 62 = .ok (.iconst 3, 1) := dOf oX8_findPlaces_0 38 rfl
theorem dX8_findPlaces_63 : decode cX8_findPlaces 63 = .ok (.if_icmp .gt 21, 3) := dOf oX8_findPlaces_0 39 rfl
theorem dX8_findPlaces_66 : decode cX8_findPlaces 66 = .ok (.aload_n 0, 1) := dOf oX8_findPlaces_0 40 rfl
theorem dX8_findPlaces_67 : decode cX8_findPlaces 67 = .ok (.iload_n 2, 1) := dOf oX8_findPlaces_0 41 rfl
theorem dX8_findPlaces_68 : decode cX8_findPlaces 68 = .ok (.bipush 16, 2) := dOf oX8_findPlaces_0 42 rfl
theorem dX8_findPlaces_70 : decode cX8_findPlaces 70 = .ok (.bipush 6, 2) := dOf oX8_findPlaces_0 43 rfl
theorem dX8_findPlaces_72 : decode cX8_findPlaces 72 = .ok (.iload_n 2, 1) := dOf oX8_findPlaces_0 44 rfl
theorem dX8_findPlaces_73 : decode cX8_findPlaces 73 = .ok (.imul, 1) := dOf oX8_findPlaces_0 45 rfl
theorem dX8_findPlaces_74 : decode cX8_findPlaces 74 = .ok (.iadd, 1) := dOf oX8_findPlaces_0 46 rfl
theorem dX8_findPlaces_75 : decode cX8_findPlaces 75 = .ok (.invokevirtual 40, 3) := dOf oX8_findPlaces_0 47 rfl
theorem dX8_findPlaces_78 : decode cX8_findPlaces 78 = .ok (.iinc 2 1, 3) := dOf oX8_findPlaces_0 48 rfl
theorem dX8_findPlaces_81 : decode cX8_findPlaces 81 = .ok (.goto (-20), 3) := dOf oX8_findPlaces_0 49 rfl
theorem dX8_findPlaces_84 : decode cX8_findPlaces 84 = .ok (.return_, 1) := dOf oX8_findPlaces_0 50 rfl
def eX8_findRuns_0 : List (Nat × Instr × Nat) := [(0, .iconst 0, 1), (1, .istore_n 3, 1), (2, .iload_n 3, 1), (3, .bipush 6, 2), (5, .if_icmp .ge 18, 3), (8, .aload_n 0, 1), (9, .getfield 20, 3), (12, .iload_n 2, 1), (13, .iload_n 3, 1), (14, .iadd, 1), (15, .iconst (-1), 1), (16, .iastore, 1), (17, .iinc 3 1, 3), (20, .goto (-18), 3), (23, .iconst 0, 1), (24, .istore_n 3, 1), (25, .iconst 0, 1), (26, .istore 4, 2), (28, .iload 4, 2), (30, .aload_n 0, 1), (31, .getfield 14, 3), (34, .getfield 35, 3), (37, .if_icmp .ge 103, 3), (40, .iload 4, 2), (42, .istore 5, 2), (44, .iinc 4 1, 3), (47, .iload_n 1, 1), (48, .aload_n 0, 1), (49, .getfield 14, 3), (52, .getfield 44, 3), (55, .iload 5, 2), (57, .baload, 1), (58, .invokestatic 47, 3), (61, .ifCond .ne 6, 3), (64, .goto (-36), 3), (67, .iload_n 1, 1), (68, .iconst 3, 1), (69, .if_icmp .eq 38, 3), (72, .iload 4, 2), (74, .aload_n 0, 1), (75, .getfield 14, 3), (78, .getfield 35, 3), (81, .if_icmp .ge 26, 3), (84, .iload_n 1, 1), (85, .aload_n 0, 1), (86, .getfield 14, 3), (89, .getfield 44, 3), (92, .iload 4, 2), (94, .baload, 1), (95, .invokestatic 47, 3), (98, .ifCond .eq 9, 3), (101, .iinc 4 1, 3), (104, .goto (-37), 3), (107, .iload_n 3, 1), (108, .iconst 2, 1), (109, .if_icmp .ge 14, 3), (112, .aload_n 0, 1), (113, .iload_n 2, 1), (114, .iload_n 3, 1), (115, .iadd, 1)]
theorem oX8_findRuns_0 : okC cX8_findRuns eX8_findRuns_0 = true := by decide +kernel
theorem dX8_findRuns_0 : decode cX8_findRuns 0 = .ok (.iconst 0, 1) := dOf oX8_findRuns_0 0 rfl
theorem dX8_findRuns_1 : decode cX8_findRuns 1 = .ok (.istore_n 3, 1) := dOf oX8_findRuns_0 1 rfl
theorem dX8_findRuns_2 : decode cX8_findRuns 2 = .ok (.iload_n 3, 1) := dOf oX8_findRuns_0 2 rfl
theorem dX8_findRuns_3 : decode cX8_findRuns 3 = .ok (.bipush 6, 2) := dOf oX8_findRuns_0 3 rfl
theorem dX8_findRuns_5 : decode cX8_findRuns 5 = .ok (.if_icmp .ge 18, 3) := dOf oX8_findRuns_0 4 rfl
theorem dX8_findRuns_8 : decode cX8_findRuns 8 = .ok (.aload_n 0, 1) := dOf oX8_findRuns_0 5 rfl
theorem dX8_findRuns_9 : decode cX8_findRuns 9 = .ok (.getfield 20, 3) := dOf oX8_findRuns_0 6 rfl
theorem dX8_findRuns_12 : decode cX8_findRuns 12 = .ok (.iload_n 2, 1) := dOf oX8_findRuns_0 7 rfl
theorem dX8_findRuns_13 : decode cX8_findRuns 13 = .ok (.iload_n 3, 1) := dOf oX8_findRuns_0 8 rfl
theorem dX8_findRuns_14 : decode cX8_findRuns 14 = .ok (.iadd, 1) := dOf oX8_findRuns_0 9 rfl
theorem dX8_findRuns_15 : decode cX8_findRuns 15 = .ok (.iconst (-1), 1) := dOf oX8_findRuns_0 10 rfl
theorem dX8_findRuns_16 : decode cX8_findRuns 16 = .ok (.iastore, 1) := dOf oX8_findRuns_0 11 rfl
theorem dX8_findRuns_17 : decode cX8_findRuns 17 = .ok (.iinc 3 1, 3) := dOf oX8_findRuns_0 12 rfl
theorem dX8_findRuns_20 : decode cX8_findRuns 20 = .ok (.goto (-18), 3) := dOf oX8_findRuns_0 13 rfl
theorem dX8_findRuns_23 : decode cX8_findRuns 23 = .ok (.iconst 0, 1) := dOf oX8_findRuns_0 14 rfl
theorem dX8_findRuns_24 : decode cX8_findRuns 24 = .ok (.istore_n 3, 1) := dOf oX8_findRuns_0 15 rfl
theorem dX8_findRuns_25 : decode cX8_findRuns 25 = .ok (.iconst 0, 1) := dOf oX8_findRuns_0 16 rfl
theorem dX8_findRuns_26 : decode cX8_findRuns 26 = .ok (.istore 4, 2) := dOf oX8_findRuns_0 17 rfl
theorem dX8_findRuns_28 : decode cX8_findRuns 28 = .ok (.iload 4, 2) := dOf oX8_findRuns_0 18 rfl
theorem dX8_findRuns_30 : decode cX8_findRuns 30 = .ok (.aload_n 0, 1) := dOf oX8_findRuns_0 19 rfl
theorem dX8_findRuns_31 : decode cX8_findRuns 31 = .ok (.getfield 14, 3) := dOf oX8_findRuns_0 20 rfl
theorem dX8_findRuns_34 : decode cX8_findRuns 34 = .ok (.getfield 35, 3) := dOf oX8_findRuns_0 21 rfl
theorem dX8_findRuns_37 : decode cX8_findRuns 37 = .ok (.if_icmp .ge 103, 3) := dOf oX8_findRuns_0 22 rfl
theorem dX8_findRuns_40 : decode cX8_findRuns 40 = .ok (.iload 4, 2) := dOf oX8_findRuns_0 23 rfl
theorem dX8_findRuns_42 : decode cX8_findRuns 42 = .ok (.istore 5, 2) := dOf oX8_findRuns_0 24 rfl
theorem dX8_findRuns_44 : decode cX8_findRuns 44 = .ok (.iinc 4 1, 3) := dOf oX8_findRuns_0 25 rfl
theorem dX8_findRuns_47 : decode cX8_findRuns 47 = .ok (.iload_n 1, 1) := dOf oX8_findRuns_0 26 rfl
theorem dX8_findRuns_48 : decode cX8_findRuns 48 = .ok (.aload_n 0, 1) := dOf oX8_findRuns_0 27 rfl
theorem dX8_findRuns_49 : decode cX8_findRuns 49 = .ok (.getfield 14, 3) := dOf oX8_findRuns_0 28 rfl
theorem dX8_findRuns_52 : decode cX8_findRuns 52 = .ok (.getfield 44, 3) := dOf oX8_findRuns_0 29 rfl
theorem dX8_findRuns_55 : decode cX8_findRuns 55 = .ok (.iload 5, 2) := dOf oX8_findRuns_0 30 rfl
theorem dX8_findRuns_57 : decode cX8_findRuns 57 = .ok (.baload, 1) := dOf oX8_findRuns_0 31 rfl
theorem dX8_findRuns_58 : decode cX8_findRuns 58 = .ok (.invokestatic 47, 3) := dOf oX8_findRuns_0 32 rfl
theorem dX8_findRuns_61 : decode cX8_findRuns 61 = .ok (.ifCond .ne 6, 3) := dOf oX8_findRuns_0 33 rfl
theorem dX8_findRuns_64 : decode cX8_findRuns 64 = .ok (.goto (-36), 3) := dOf oX8_findRuns_0 34 rfl
theorem dX8_findRuns_67 : decode cX8_findRuns 67 = .ok (.iload_n 1, 1) := dOf oX8_findRuns_0 35 rfl
theorem dX8_findRuns_68 : decode cX8_findRuns 68 = .ok (.iconst 3, 1) := dOf oX8_findRuns_0 36 rfl
theorem dX8_findRuns_69 : decode cX8_findRuns 69 = .ok (.if_icmp .eq 38, 3) := dOf oX8_findRuns_0 37 rfl
theorem dX8_findRuns_72 : decode cX8_findRuns 72 = .ok (.iload 4, 2) := dOf oX8_findRuns_0 38 rfl
theorem dX8_findRuns_74 : decode cX8_findRuns 74 = .ok (.aload_n 0, 1) := dOf oX8_findRuns_0 39 rfl
theorem dX8_findRuns_75 : decode cX8_findRuns 75 = .ok (.getfield 14, 3) := dOf oX8_findRuns_0 40 rfl
theorem dX8_findRuns_78 : decode cX8_findRuns 78 = .ok (.getfield 35, 3) := dOf oX8_findRuns_0 41 rfl
theorem dX8_findRuns_81 : decode cX8_findRuns 81 = .ok (.if_icmp .ge 26, 3) := dOf oX8_findRuns_0 42 rfl
theorem dX8_findRuns_84 : decode cX8_findRuns 84 = .ok (.iload_n 1, 1) := dOf oX8_findRuns_0 43 rfl
theorem dX8_findRuns_85 : decode cX8_findRuns 85 = .ok (.aload_n 0, 1) := dOf oX8_findRuns_0 44 rfl
theorem dX8_findRuns_86 : decode cX8_findRuns 86 = .ok (.getfield 14, 3) := dOf oX8_findRuns_0 45 rfl
theorem dX8_findRuns_89 : decode cX8_findRuns 89 = .ok (.getfield 44, 3) := dOf oX8_findRuns_0 46 rfl
theorem dX8_findRuns_92 : decode cX8_findRuns 92 = .ok (.iload 4, 2) := dOf oX8_findRuns_0 47 rfl
theorem dX8_findRuns_94 : decode cX8_findRuns 94 = .ok (.baload, 1) := dOf oX8_findRuns_0 48 rfl
theorem dX8_findRuns_95 : decode cX8_findRuns 95 = .ok (.invokestatic 47, 3) := dOf oX8_findRuns_0 49 rfl
theorem dX8_findRuns_98 : decode cX8_findRuns 98 = .ok (.ifCond .eq 9, 3) := dOf oX8_findRuns_0 50 rfl
theorem dX8_findRuns_101 : decode cX8_findRuns 101 = .ok (.iinc 4 1, 3) := dOf oX8_findRuns_0 51 rfl
theorem dX8_findRuns_104 : decode cX8_findRuns 104 = .ok (.goto (-37), 3) := dOf oX8_findRuns_0 52 rfl
theorem dX8_findRuns_107 : decode cX8_findRuns 107 = .ok (.iload_n 3, 1) := dOf oX8_findRuns_0 53 rfl
theorem dX8_findRuns_108 : decode cX8_findRuns 108 = .ok (.iconst 2, 1) := dOf oX8_findRuns_0 54 rfl
theorem dX8_findRuns_109 : decode cX8_findRuns 109 = .ok (.if_icmp .ge 14, 3) := dOf oX8_findRuns_0 55 rfl
theorem dX8_findRuns_112 : decode cX8_findRuns 112 = .ok (.aload_n 0, 1) := dOf oX8_findRuns_0 56 rfl
theorem dX8_findRuns_113 : decode cX8_findRuns 113 = .ok (.iload_n 2, 1) := dOf oX8_findRuns_0 57 rfl
theorem dX8_findRuns_114 : decode cX8_findRuns 114 = .ok (.iload_n 3, 1) := dOf oX8_findRuns_0 58 rfl
theorem dX8_findRuns_115 : decode cX8_findRuns 115 = .ok (.iadd, 1) := dOf oX8_findRuns_0 59 rfl
def eX8_findRuns_1 : List (Nat × Instr × Nat) := [(116, .iload 5, 2), (118, .iload 4, 2), (120, .invokevirtual 51, 3), (123, .aload_n 0, 1), (124, .iload_n 2, 1), (125, .iconst 2, 1), (126, .iadd, 1), (127, .iload 5, 2), (129, .iload 4, 2), (131, .invokevirtual 51, 3), (134, .iinc 3 1, 3), (137, .goto (-109), 3), (140, .return_, 1)]
theorem oX8_findRuns_1 : okC cX8_findRuns eX8_findRuns_1 = true := by decide +kernel
theorem dX8_findRuns_116 : decode cX8_findRuns 116 = .ok (.iload 5, 2) := dOf oX8_findRuns_1 0 rfl
theorem dX8_findRuns_118 : decode cX8_findRuns 118 = .ok (.iload 4, 2) := dOf oX8_findRuns_1 1 rfl
theorem dX8_findRuns_120 : decode cX8_findRuns 120 = .ok (.invokevirtual 51, 3) := dOf oX8_findRuns_1 2 rfl
theorem dX8_findRuns_123 : decode cX8_findRuns 123 = .ok (.aload_n 0, 1) := dOf oX8_findRuns_1 3 rfl
theorem dX8_findRuns_124 : decode cX8_findRuns 124 = .ok (.iload_n 2, 1) := dOf oX8_findRuns_1 4 rfl
theorem dX8_findRuns_125 : decode cX8_findRuns 125 = .ok (.iconst 2, 1) := dOf oX8_findRuns_1 5 rfl
theorem dX8_findRuns_126 : decode cX8_findRuns 126 = .ok (.iadd, 1) := dOf oX8_findRuns_1 6 rfl
theorem dX8_findRuns_127 : decode cX8_findRuns 127 = .ok (.iload 5, 2) := dOf oX8_findRuns_1 7 rfl
theorem dX8_findRuns_129 : decode cX8_findRuns 129 = .ok (.iload 4, 2) := dOf oX8_findRuns_1 8 rfl
theorem dX8_findRuns_131 : decode cX8_findRuns 131 = .ok (.invokevirtual 51, 3) := dOf oX8_findRuns_1 9 rfl
theorem dX8_findRuns_134 : decode cX8_findRuns 134 = .ok (.iinc 3 1, 3) := dOf oX8_findRuns_1 10 rfl
theorem dX8_findRuns_137 : decode cX8_findRuns 137 = .ok (.goto (-109), 3) := dOf oX8_findRuns_1 11 rfl
theorem dX8_findRuns_140 : decode cX8_findRuns 140 = .ok (.return_, 1) := dOf oX8_findRuns_1 12 rfl
def eX8_setRun_0 : List (Nat × Instr × Nat) := [(0, .aload_n 0, 1), (1, .getfield 20, 3), (4, .iload_n 1, 1), (5, .iload_n 2, 1), (6, .iastore, 1), (7, .aload_n 0, 1), (8, .getfield 20, 3), (11, .iload_n 1, 1), (12, .iconst 3, 1), (13, .iadd, 1), (14, .iload_n 3, 1), (15, .iastore, 1), (16, .return_, 1)]
theorem oX8_setRun_0 : okC cX8_setRun eX8_setRun_0 = true := by decide +kernel
theorem dX8_setRun_0 : decode cX8_setRun 0 = .ok (.aload_n 0, 1) := dOf oX8_setRun_0 0 rfl
theorem dX8_setRun_1 : decode cX8_setRun 1 = .ok (.getfield 20, 3) := dOf oX8_setRun_0 1 rfl
theorem dX8_setRun_4 : decode cX8_setRun 4 = .ok (.iload_n 1, 1) := dOf oX8_setRun_0 2 rfl
theorem dX8_setRun_5 : decode cX8_setRun 5 = .ok (.iload_n 2, 1) := dOf oX8_setRun_0 3 rfl
theorem dX8_setRun_6 : decode cX8_setRun 6 = .ok (.iastore, 1) := dOf oX8_setRun_0 4 rfl
theorem dX8_setRun_7 : decode cX8_setRun 7 = .ok (.aload_n 0, 1) := dOf oX8_setRun_0 5 rfl
theorem dX8_setRun_8 : decode cX8_setRun 8 = .ok (.getfield 20, 3) := dOf oX8_setRun_0 6 rfl
theorem dX8_setRun_11 : decode cX8_setRun 11 = .ok (.iload_n 1, 1) := dOf oX8_setRun_0 7 rfl
theorem dX8_setRun_12 : decode cX8_setRun 12 = .ok (.iconst 3, 1) := dOf oX8_setRun_0 8 rfl
theorem dX8_setRun_13 : decode cX8_setRun 13 = .ok (.iadd, 1) := dOf oX8_setRun_0 9 rfl
theorem dX8_setRun_14 : decode cX8_setRun 14 = .ok (.iload_n 3, 1) := dOf oX8_setRun_0 10 rfl
theorem dX8_setRun_15 : decode cX8_setRun 15 = .ok (.iastore, 1) := dOf oX8_setRun_0 11 rfl
theorem dX8_setRun_16 : decode cX8_setRun 16 = .ok (.return_, 1) := dOf oX8_setRun_0 12 rfl
def eX8_cutInto_0 : List (Nat × Instr × Nat) := [(0, .aload_n 0, 1), (1, .getfield 20, 3), (4, .iload_n 1, 1), (5, .bipush 120, 2), (7, .idiv, 1), (8, .iaload, 1), (9, .istore_n 3, 1), (10, .aload_n 0, 1), (11, .getfield 20, 3), (14, .iload_n 1, 1), (15, .iconst 3, 1), (16, .idiv, 1), (17, .bipush 40, 2), (19, .irem, 1), (20, .iaload, 1), (21, .istore 4, 2), (23, .iload_n 3, 1), (24, .ifCond .lt 9, 3), (27, .iload 4, 2), (29, .iload_n 3, 1), (30, .if_icmp .gt 5, 3), (33, .iconst 0, 1), (34, .ireturn, 1), (35, .iload_n 1, 1), (36, .iconst 3, 1), (37, .irem, 1), (38, .istore 5, 2), (40, .iload_n 3, 1), (41, .istore 6, 2), (43, .iload 6, 2), (45, .iload 4, 2), (47, .if_icmp .ge 28, 3), (50, .aload_n 2, 1), (51, .iload 5, 2), (53, .aload_n 0, 1), (54, .getfield 14, 3), (57, .getfield 44, 3), (60, .iload 6, 2), (62, .baload, 1), (63, .invokestatic 55, 3), (66, .invokevirtual 59, 3), (69, .iinc 6 1, 3), (72, .goto (-29), 3), (75, .iconst 1, 1), (76, .ireturn, 1)]
theorem oX8_cutInto_0 : okC cX8_cutInto eX8_cutInto_0 = true := by decide +kernel
theorem dX8_cutInto_0 : decode cX8_cutInto 0 = .ok (.aload_n 0, 1) := dOf oX8_cutInto_0 0 rfl
theorem dX8_cutInto_1 : decode cX8_cutInto 1 = .ok (.getfield 20, 3) := dOf oX8_cutInto_0 1 rfl
theorem dX8_cutInto_4 : decode cX8_cutInto 4 = .ok (.iload_n 1, 1) := dOf oX8_cutInto_0 2 rfl
theorem dX8_cutInto_5 : decode cX8_cutInto 5 = .ok (.bipush 120, 2) := dOf oX8_cutInto_0 3 rfl
theorem dX8_cutInto_7 : decode cX8_cutInto 7 = .ok (.idiv, 1) := dOf oX8_cutInto_0 4 rfl
theorem dX8_cutInto_8 : decode cX8_cutInto 8 = .ok (.iaload, 1) := dOf oX8_cutInto_0 5 rfl
theorem dX8_cutInto_9 : decode cX8_cutInto 9 = .ok (.istore_n 3, 1) := dOf oX8_cutInto_0 6 rfl
theorem dX8_cutInto_10 : decode cX8_cutInto 10 = .ok (.aload_n 0, 1) := dOf oX8_cutInto_0 7 rfl
theorem dX8_cutInto_11 : decode cX8_cutInto 11 = .ok (.getfield 20, 3) := dOf oX8_cutInto_0 8 rfl
theorem dX8_cutInto_14 : decode cX8_cutInto 14 = .ok (.iload_n 1, 1) := dOf oX8_cutInto_0 9 rfl
theorem dX8_cutInto_15 : decode cX8_cutInto 15 = .ok (.iconst 3, 1) := dOf oX8_cutInto_0 10 rfl
theorem dX8_cutInto_16 : decode cX8_cutInto 16 = .ok (.idiv, 1) := dOf oX8_cutInto_0 11 rfl
theorem dX8_cutInto_17 : decode cX8_cutInto 17 = .ok (.bipush 40, 2) := dOf oX8_cutInto_0 12 rfl
theorem dX8_cutInto_19 : decode cX8_cutInto 19 = .ok (.irem, 1) := dOf oX8_cutInto_0 13 rfl
theorem dX8_cutInto_20 : decode cX8_cutInto 20 = .ok (.iaload, 1) := dOf oX8_cutInto_0 14 rfl
theorem dX8_cutInto_21 : decode cX8_cutInto 21 = .ok (.istore 4, 2) := dOf oX8_cutInto_0 15 rfl
theorem dX8_cutInto_23 : decode cX8_cutInto 23 = .ok (.iload_n 3, 1) := dOf oX8_cutInto_0 16 rfl
theorem dX8_cutInto_24 : decode cX8_cutInto 24 = .ok (.ifCond .lt 9, 3) := dOf oX8_cutInto_0 17 rfl
theorem dX8_cutInto_27 : decode cX8_cutInto 27 = .ok (.iload 4, 2) := dOf oX8_cutInto_0 18 rfl
theorem dX8_cutInto_29 : decode cX8_cutInto 29 = .ok (.iload_n 3, 1) := dOf oX8_cutInto_0 19 rfl
theorem dX8_cutInto_30 : decode cX8_cutInto 30 = .ok (.if_icmp .gt 5, 3) := dOf oX8_cutInto_0 20 rfl
theorem dX8_cutInto_33 : decode cX8_cutInto 33 = .ok (.iconst 0, 1) := dOf oX8_cutInto_0 21 rfl
theorem dX8_cutInto_34 : decode cX8_cutInto 34 = .ok (.ireturn, 1) := dOf oX8_cutInto_0 22 rfl
theorem dX8_cutInto_35 : decode cX8_cutInto 35 = .ok (.iload_n 1, 1) := dOf oX8_cutInto_0 23 rfl
theorem dX8_cutInto_36 : decode cX8_cutInto 36 = .ok (.iconst 3, 1) := dOf oX8_cutInto_0 24 rfl
theorem dX8_cutInto_37 : decode cX8_cutInto 37 = .ok (.irem, 1) := dOf oX8_cutInto_0 25 rfl
theorem dX8_cutInto_38 : decode cX8_cutInto 38 = .ok (.istore 5, 2) := dOf oX8_cutInto_0 26 rfl
theorem dX8_cutInto_40 : decode cX8_cutInto 40 = .ok (.iload_n 3, 1) := dOf oX8_cutInto_0 27 rfl
theorem dX8_cutInto_41 : decode cX8_cutInto 41 = .ok (.istore 6, 2) := dOf oX8_cutInto_0 28 rfl
theorem dX8_cutInto_43 : decode cX8_cutInto 43 = .ok (.iload 6, 2) := dOf oX8_cutInto_0 29 rfl
theorem dX8_cutInto_45 : decode cX8_cutInto 45 = .ok (.iload 4, 2) := dOf oX8_cutInto_0 30 rfl
theorem dX8_cutInto_47 : decode cX8_cutInto 47 = .ok (.if_icmp .ge 28, 3) := dOf oX8_cutInto_0 31 rfl
theorem dX8_cutInto_50 : decode cX8_cutInto 50 = .ok (.aload_n 2, 1) := dOf oX8_cutInto_0 32 rfl
theorem dX8_cutInto_51 : decode cX8_cutInto 51 = .ok (.iload 5, 2) := dOf oX8_cutInto_0 33 rfl
theorem dX8_cutInto_53 : decode cX8_cutInto 53 = .ok (.aload_n 0, 1) := dOf oX8_cutInto_0 34 rfl
theorem dX8_cutInto_54 : decode cX8_cutInto 54 = .ok (.getfield 14, 3) := dOf oX8_cutInto_0 35 rfl
theorem dX8_cutInto_57 : decode cX8_cutInto 57 = .ok (.getfield 44, 3) := dOf oX8_cutInto_0 36 rfl
theorem dX8_cutInto_60 : decode cX8_cutInto 60 = .ok (.iload 6, 2) := dOf oX8_cutInto_0 37 rfl
theorem dX8_cutInto_62 : decode cX8_cutInto 62 = .ok (.baload, 1) := dOf oX8_cutInto_0 38 rfl
theorem dX8_cutInto_63 : decode cX8_cutInto 63 = .ok (.invokestatic 55, 3) := dOf oX8_cutInto_0 39 rfl
theorem dX8_cutInto_66 : decode cX8_cutInto 66 = .ok (.invokevirtual 59, 3) := dOf oX8_cutInto_0 40 rfl
theorem dX8_cutInto_69 : decode cX8_cutInto 69 = .ok (.iinc 6 1, 3) := dOf oX8_cutInto_0 41 rfl
theorem dX8_cutInto_72 : decode cX8_cutInto 72 = .ok (.goto (-29), 3) := dOf oX8_cutInto_0 42 rfl
theorem dX8_cutInto_75 : decode cX8_cutInto 75 = .ok (.iconst 1, 1) := dOf oX8_cutInto_0 43 rfl
theorem dX8_cutInto_76 : decode cX8_cutInto 76 = .ok (.ireturn, 1) := dOf oX8_cutInto_0 44 rfl
def eX8_compareSpans_0 : List (Nat × Instr × Nat) := [(0, .aload_n 0, 1), (1, .getfield 31, 3), (4, .iconst 0, 1), (5, .invokestatic 62, 3), (8, .iconst 0, 1), (9, .istore_n 1, 1), (10, .iload_n 1, 1), (11, .iconst 3, 1), (12, .if_icmp .ge 40, 3), (15, .iconst 0, 1), (16, .istore_n 2, 1), (17, .iload_n 2, 1), (18, .aload_n 0, 1), (19, .getfield 14, 3), (22, .getfield 35, 3), (25, .if_icmp .gt 21, 3), (28, .aload_n 0, 1), (29, .iload_n 1, 1), (30, .iload_n 2, 1), (31, .invokevirtual 68, 3), (34, .aload_n 0, 1), (35, .iload_n 1, 1), (36, .iload_n 2, 1), (37, .invokevirtual 71, 3), (40, .iinc 2 1, 3), (43, .goto (-26), 3), (46, .iinc 1 1, 3), (49, .goto (-39), 3), (52, .return_, 1)]
theorem oX8_compareSpans_0 : okC cX8_compareSpans eX8_compareSpans_0 = true := by decide +kernel
theorem dX8_compareSpans_0 : decode cX8_compareSpans 0 = .ok (.aload_n 0, 1) := dOf oX8_compareSpans_0 0 rfl
theorem dX8_compareSpans_1 : decode cX8_compareSpans 1 = .ok (.getfield 31, 3) := dOf oX8_compareSpans_0 1 rfl
theorem dX8_compareSpans_4 : decode cX8_compareSpans 4 = .ok (.iconst 0, 1) := dOf oX8_compareSpans_0 2 rfl
theorem dX8_compareSpans_5 : decode cX8_compareSpans 5 = .ok (.invokestatic 62, 3) := dOf oX8_compareSpans_0 3 rfl
theorem dX8_compareSpans_8 : decode cX8_compareSpans 8 = .ok (.iconst 0, 1) := dOf oX8_compareSpans_0 4 rfl
theorem dX8_compareSpans_9 : decode cX8_compareSpans 9 = .ok (.istore_n 1, 1) := dOf oX8_compareSpans_0 5 rfl
theorem dX8_compareSpans_10 : decode cX8_compareSpans 10 = .ok (.iload_n 1, 1) := dOf oX8_compareSpans_0 6 rfl
theorem dX8_compareSpans_11 : decode cX8_compareSpans 11 = .ok (.iconst 3, 1) := dOf oX8_compareSpans_0 7 rfl
theorem dX8_compareSpans_12 : decode cX8_compareSpans 12 = .ok (.if_icmp .ge 40, 3) := dOf oX8_compareSpans_0 8 rfl
theorem dX8_compareSpans_15 : decode cX8_compareSpans 15 = .ok (.iconst 0, 1) := dOf oX8_compareSpans_0 9 rfl
theorem dX8_compareSpans_16 : decode cX8_compareSpans 16 = .ok (.istore_n 2, 1) := dOf oX8_compareSpans_0 10 rfl
theorem dX8_compareSpans_17 : decode cX8_compareSpans 17 = .ok (.iload_n 2, 1) := dOf oX8_compareSpans_0 11 rfl
theorem dX8_compareSpans_18 : decode cX8_compareSpans 18 = .ok (.aload_n 0, 1) := dOf oX8_compareSpans_0 12 rfl
theorem dX8_compareSpans_19 : decode cX8_compareSpans 19 = .ok (.getfield 14, 3) := dOf oX8_compareSpans_0 13 rfl
theorem dX8_compareSpans_22 : decode cX8_compareSpans 22 = .ok (.getfield 35, 3) := dOf oX8_compareSpans_0 14 rfl
theorem dX8_compareSpans_25 : decode cX8_compareSpans 25 = .ok (.if_icmp .gt 21, 3) := dOf oX8_compareSpans_0 15 rfl
theorem dX8_compareSpans_28 : decode cX8_compareSpans 28 = .ok (.aload_n 0, 1) := dOf oX8_compareSpans_0 16 rfl
theorem dX8_compareSpans_29 : decode cX8_compareSpans 29 = .ok (.iload_n 1, 1) := dOf oX8_compareSpans_0 17 rfl
theorem dX8_compareSpans_30 : decode cX8_compareSpans 30 = .ok (.iload_n 2, 1) := dOf oX8_compareSpans_0 18 rfl
theorem dX8_compareSpans_31 : decode cX8_compareSpans 31 = .ok (.invokevirtual 68, 3) := dOf oX8_compareSpans_0 19 rfl
theorem dX8_compareSpans_34 : decode cX8_compareSpans 34 = .ok (.aload_n 0, 1) := dOf oX8_compareSpans_0 20 rfl
theorem dX8_compareSpans_35 : decode cX8_compareSpans 35 = .ok (.iload_n 1, 1) := dOf oX8_compareSpans_0 21 rfl
theorem dX8_compareSpans_36 : decode cX8_compareSpans 36 = .ok (.iload_n 2, 1) := dOf oX8_compareSpans_0 22 rfl
theorem dX8_compareSpans_37 : decode cX8_compareSpans 37 = .ok (.invokevirtual 71, 3) := dOf oX8_compareSpans_0 23 rfl
theorem dX8_compareSpans_40 : decode cX8_compareSpans 40 = .ok (.iinc 2 1, 3) := dOf oX8_compareSpans_0 24 rfl
theorem dX8_compareSpans_43 : decode cX8_compareSpans 43 = .ok (.goto (-26), 3) := dOf oX8_compareSpans_0 25 rfl
theorem dX8_compareSpans_46 : decode cX8_compareSpans 46 = .ok (.iinc 1 1, 3) := dOf oX8_compareSpans_0 26 rfl
theorem dX8_compareSpans_49 : decode cX8_compareSpans 49 = .ok (.goto (-39), 3) := dOf oX8_compareSpans_0 27 rfl
theorem dX8_compareSpans_52 : decode cX8_compareSpans 52 = .ok (.return_, 1) := dOf oX8_compareSpans_0 28 rfl
def eX8_markBeginnings_0 : List (Nat × Instr × Nat) := [(0, .iconst 0, 1), (1, .istore_n 3, 1), (2, .iload_n 3, 1), (3, .aload_n 0, 1), (4, .getfield 24, 3), (7, .getfield 35, 3), (10, .if_icmp .ge 72, 3), (13, .iload_n 2, 1), (14, .iload_n 3, 1), (15, .iadd, 1), (16, .aload_n 0, 1), (17, .getfield 14, 3), (20, .getfield 35, 3), (23, .if_icmp .ge 59, 3), (26, .iload_n 1, 1), (27, .aload_n 0, 1), (28, .getfield 14, 3), (31, .getfield 44, 3), (34, .iload_n 2, 1), (35, .iload_n 3, 1), (36, .iadd, 1), (37, .baload, 1), (38, .invokestatic 55, 3), (41, .aload_n 0, 1), (42, .getfield 24, 3), (45, .getfield 44, 3), (48, .iload_n 3, 1), (49, .baload, 1), (50, .if_icmp .eq 4, 3), (53, .return_, 1), (54, .aload_n 0, 1), (55, .getfield 31, 3), (58, .iload_n 2, 1), (59, .bipush 17, 2), (61, .imul, 1), (62, .iload_n 2, 1), (63, .iadd, 1), (64, .iload_n 3, 1), (65, .iadd, 1), (66, .iconst 1, 1), (67, .iadd, 1), (68, .dup2, 1), (69, .baload, 1), (70, .iconst 1, 1), (71, .iload_n 1, 1), (72, .ishl, 1), (73, .ior, 1), (74, .i2b, 1), (75, .bastore, 1), (76, .iinc 3 1, 3), (79, .goto (-77), 3), (82, .return_, 1)]
theorem oX8_markBeginnings_0 : okC cX8_markBeginnings eX8_markBeginnings_0 = true := by decide +kernel
theorem dX8_markBeginnings_0 : decode cX8_markBeginnings 0 = .ok (.iconst 0, 1) := dOf oX8_markBeginnings_0 0 rfl
theorem dX8_markBeginnings_1 : decode cX8_markBeginnings 1 = .ok (.istore_n 3, 1) := dOf oX8_markBeginnings_0 1 rfl
theorem dX8_markBeginnings_2 : decode cX8_markBeginnings 2 = .ok (.iload_n 3, 1) := dOf oX8_markBeginnings_0 2 rfl
theorem dX8_markBeginnings_3 : decode cX8_markBeginnings 3 = .ok (.aload_n 0, 1) := dOf oX8_markBeginnings_0 3 rfl
theorem dX8_markBeginnings_4 : decode cX8_markBeginnings 4 = .ok (.getfield 24, 3) := dOf oX8_markBeginnings_0 4 rfl
theorem dX8_markBeginnings_7 : decode cX8_markBeginnings 7 = .ok (.getfield 35, 3) := dOf oX8_markBeginnings_0 5 rfl
theorem dX8_markBeginnings_10 : decode cX8_markBeginnings 10 = .ok (.if_icmp .ge 72, 3) := dOf oX8_markBeginnings_0 6 rfl
theorem dX8_markBeginnings_13 : decode cX8_markBeginnings 13 = .ok (.iload_n 2, 1) := dOf oX8_markBeginnings_0 7 rfl
theorem dX8_markBeginnings_14 : decode cX8_markBeginnings 14 = .ok (.iload_n 3, 1) := dOf oX8_markBeginnings_0 8 rfl
theorem dX8_markBeginnings_15 : decode cX8_markBeginnings 15 = .ok (.iadd, 1) := dOf oX8_markBeginnings_0 9 rfl
theorem dX8_markBeginnings_16 : decode cX8_markBeginnings 16 = .ok (.aload_n 0, 1) := dOf oX8_markBeginnings_0 10 rfl
theorem dX8_markBeginnings_17 : decode cX8_markBeginnings 17 = .ok (.getfield 14, 3) := dOf oX8_markBeginnings_0 11 rfl
theorem dX8_markBeginnings_20 : decode cX8_markBeginnings 20 = .ok (.getfield 35, 3) := dOf oX8_markBeginnings_0 12 rfl
theorem dX8_markBeginnings_23 : decode cX8_markBeginnings 23 = .ok (.if_icmp .ge 59, 3) := dOf oX8_markBeginnings_0 13 rfl
theorem dX8_markBeginnings_26 : decode cX8_markBeginnings 26 = .ok (.iload_n 1, 1) := dOf oX8_markBeginnings_0 14 rfl
theorem dX8_markBeginnings_27 : decode cX8_markBeginnings 27 = .ok (.aload_n 0, 1) := dOf oX8_markBeginnings_0 15 rfl
theorem dX8_markBeginnings_28 : decode cX8_markBeginnings 28 = .ok (.getfield 14, 3) := dOf oX8_markBeginnings_0 16 rfl
theorem dX8_markBeginnings_31 : decode cX8_markBeginnings 31 = .ok (.getfield 44, 3) := dOf oX8_markBeginnings_0 17 rfl
theorem dX8_markBeginnings_34 : decode cX8_markBeginnings 34 = .ok (.iload_n 2, 1) := dOf oX8_markBeginnings_0 18 rfl
theorem dX8_markBeginnings_35 : decode cX8_markBeginnings 35 = .ok (.iload_n 3, 1) := dOf oX8_markBeginnings_0 19 rfl
theorem dX8_markBeginnings_36 : decode cX8_markBeginnings 36 = .ok (.iadd, 1) := dOf oX8_markBeginnings_0 20 rfl
theorem dX8_markBeginnings_37 : decode cX8_markBeginnings 37 = .ok (.baload, 1) := dOf oX8_markBeginnings_0 21 rfl
theorem dX8_markBeginnings_38 : decode cX8_markBeginnings 38 = .ok (.invokestatic 55, 3) := dOf oX8_markBeginnings_0 22 rfl
theorem dX8_markBeginnings_41 : decode cX8_markBeginnings 41 = .ok (.aload_n 0, 1) := dOf oX8_markBeginnings_0 23 rfl
theorem dX8_markBeginnings_42 : decode cX8_markBeginnings 42 = .ok (.getfield 24, 3) := dOf oX8_markBeginnings_0 24 rfl
theorem dX8_markBeginnings_45 : decode cX8_markBeginnings 45 = .ok (.getfield 44, 3) := dOf oX8_markBeginnings_0 25 rfl
theorem dX8_markBeginnings_48 : decode cX8_markBeginnings 48 = .ok (.iload_n 3, 1) := dOf oX8_markBeginnings_0 26 rfl
theorem dX8_markBeginnings_49 : decode cX8_markBeginnings 49 = .ok (.baload, 1) := dOf oX8_markBeginnings_0 27 rfl
theorem dX8_markBeginnings_50 : decode cX8_markBeginnings 50 = .ok (.if_icmp .eq 4, 3) := dOf oX8_markBeginnings_0 28 rfl
theorem dX8_markBeginnings_53 : decode cX8_markBeginnings 53 = .ok (.return_, 1) := dOf oX8_markBeginnings_0 29 rfl
theorem dX8_markBeginnings_54 : decode cX8_markBeginnings 54 = .ok (.aload_n 0, 1) := dOf oX8_markBeginnings_0 30 rfl
theorem dX8_markBeginnings_55 : decode cX8_markBeginnings 55 = .ok (.getfield 31, 3) := dOf oX8_markBeginnings_0 31 rfl
theorem dX8_markBeginnings_58 : decode cX8_markBeginnings 58 = .ok (.iload_n 2, 1) := dOf oX8_markBeginnings_0 32 rfl
theorem dX8_markBeginnings_59 : decode cX8_markBeginnings 59 = .ok (.bipush 17, 2) := dOf oX8_markBeginnings_0 33 rfl
theorem dX8_markBeginnings_61 : decode cX8_markBeginnings 61 = .ok (.imul, 1) := dOf oX8_markBeginnings_0 34 rfl
theorem dX8_markBeginnings_62 : decode cX8_markBeginnings 62 = .ok (.iload_n 2, 1) := dOf oX8_markBeginnings_0 35 rfl
theorem dX8_markBeginnings_63 : decode cX8_markBeginnings 63 = .ok (.iadd, 1) := dOf oX8_markBeginnings_0 36 rfl
theorem dX8_markBeginnings_64 : decode cX8_markBeginnings 64 = .ok (.iload_n 3, 1) := dOf oX8_markBeginnings_0 37 rfl
theorem dX8_markBeginnings_65 : decode cX8_markBeginnings 65 = .ok (.iadd, 1) := dOf oX8_markBeginnings_0 38 rfl
theorem dX8_markBeginnings_66 : decode cX8_markBeginnings 66 = .ok (.iconst 1, 1) := dOf oX8_markBeginnings_0 39 rfl
theorem dX8_markBeginnings_67 : decode cX8_markBeginnings 67 = .ok (.iadd, 1) := dOf oX8_markBeginnings_0 40 rfl
theorem dX8_markBeginnings_68 : decode cX8_markBeginnings 68 = .ok (.dup2, 1) := dOf oX8_markBeginnings_0 41 rfl
theorem dX8_markBeginnings_69 : decode cX8_markBeginnings 69 = .ok (.baload, 1) := dOf oX8_markBeginnings_0 42 rfl
theorem dX8_markBeginnings_70 : decode cX8_markBeginnings 70 = .ok (.iconst 1, 1) := dOf oX8_markBeginnings_0 43 rfl
theorem dX8_markBeginnings_71 : decode cX8_markBeginnings 71 = .ok (.iload_n 1, 1) := dOf oX8_markBeginnings_0 44 rfl
theorem dX8_markBeginnings_72 : decode cX8_markBeginnings 72 = .ok (.ishl, 1) := dOf oX8_markBeginnings_0 45 rfl
theorem dX8_markBeginnings_73 : decode cX8_markBeginnings 73 = .ok (.ior, 1) := dOf oX8_markBeginnings_0 46 rfl
theorem dX8_markBeginnings_74 : decode cX8_markBeginnings 74 = .ok (.i2b, 1) := dOf oX8_markBeginnings_0 47 rfl
theorem dX8_markBeginnings_75 : decode cX8_markBeginnings 75 = .ok (.bastore, 1) := dOf oX8_markBeginnings_0 48 rfl
theorem dX8_markBeginnings_76 : decode cX8_markBeginnings 76 = .ok (.iinc 3 1, 3) := dOf oX8_markBeginnings_0 49 rfl
theorem dX8_markBeginnings_79 : decode cX8_markBeginnings 79 = .ok (.goto (-77), 3) := dOf oX8_markBeginnings_0 50 rfl
theorem dX8_markBeginnings_82 : decode cX8_markBeginnings 82 = .ok (.return_, 1) := dOf oX8_markBeginnings_0 51 rfl
def eX8_markClosings_0 : List (Nat × Instr × Nat) := [(0, .iconst 1, 1), (1, .istore_n 3, 1), (2, .iload_n 3, 1), (3, .aload_n 0, 1), (4, .getfield 24, 3), (7, .getfield 35, 3), (10, .if_icmp .gt 71, 3), (13, .iload_n 3, 1), (14, .iload_n 2, 1), (15, .if_icmp .gt 66, 3), (18, .iload_n 1, 1), (19, .aload_n 0, 1), (20, .getfield 14, 3), (23, .getfield 44, 3), (26, .iload_n 2, 1), (27, .iload_n 3, 1), (28, .isub, 1), (29, .baload, 1), (30, .invokestatic 55, 3), (33, .aload_n 0, 1), (34, .getfield 24, 3), (37, .getfield 44, 3), (40, .aload_n 0, 1), (41, .getfield 24, 3), (44, .getfield 35, 3), (47, .iload_n 3, 1), (48, .isub, 1), (49, .baload, 1), (50, .if_icmp .eq 4, 3), (53, .return_, 1), (54, .aload_n 0, 1), (55, .getfield 31, 3), (58, .iload_n 2, 1), (59, .iload_n 3, 1), (60, .isub, 1), (61, .bipush 17, 2), (63, .imul, 1), (64, .iload_n 2, 1), (65, .iadd, 1), (66, .dup2, 1), (67, .baload, 1), (68, .bipush 8, 2), (70, .iload_n 1, 1), (71, .ishl, 1), (72, .ior, 1), (73, .i2b, 1), (74, .bastore, 1), (75, .iinc 3 1, 3), (78, .goto (-76), 3), (81, .return_, 1)]
theorem oX8_markClosings_0 : okC cX8_markClosings eX8_markClosings_0 = true := by decide +kernel
theorem dX8_markClosings_0 : decode cX8_markClosings 0 = .ok (.iconst 1, 1) := dOf oX8_markClosings_0 0 rfl
theorem dX8_markClosings_1 : decode cX8_markClosings 1 = .ok (.istore_n 3, 1) := dOf oX8_markClosings_0 1 rfl
theorem dX8_markClosings_2 : decode cX8_markClosings 2 = .ok (.iload_n 3, 1) := dOf oX8_markClosings_0 2 rfl
theorem dX8_markClosings_3 : decode cX8_markClosings 3 = .ok (.aload_n 0, 1) := dOf oX8_markClosings_0 3 rfl
theorem dX8_markClosings_4 : decode cX8_markClosings 4 = .ok (.getfield 24, 3) := dOf oX8_markClosings_0 4 rfl
theorem dX8_markClosings_7 : decode cX8_markClosings 7 = .ok (.getfield 35, 3) := dOf oX8_markClosings_0 5 rfl
theorem dX8_markClosings_10 : decode cX8_markClosings 10 = .ok (.if_icmp .gt 71, 3) := dOf oX8_markClosings_0 6 rfl
theorem dX8_markClosings_13 : decode cX8_markClosings 13 = .ok (.iload_n 3, 1) := dOf oX8_markClosings_0 7 rfl
theorem dX8_markClosings_14 : decode cX8_markClosings 14 = .ok (.iload_n 2, 1) := dOf oX8_markClosings_0 8 rfl
theorem dX8_markClosings_15 : decode cX8_markClosings 15 = .ok (.if_icmp .gt 66, 3) := dOf oX8_markClosings_0 9 rfl
theorem dX8_markClosings_18 : decode cX8_markClosings 18 = .ok (.iload_n 1, 1) := dOf oX8_markClosings_0 10 rfl
theorem dX8_markClosings_19 : decode cX8_markClosings 19 = .ok (.aload_n 0, 1) := dOf oX8_markClosings_0 11 rfl
theorem dX8_markClosings_20 : decode cX8_markClosings 20 = .ok (.getfield 14, 3) := dOf oX8_markClosings_0 12 rfl
theorem dX8_markClosings_23 : decode cX8_markClosings 23 = .ok (.getfield 44, 3) := dOf oX8_markClosings_0 13 rfl
theorem dX8_markClosings_26 : decode cX8_markClosings 26 = .ok (.iload_n 2, 1) := dOf oX8_markClosings_0 14 rfl
theorem dX8_markClosings_27 : decode cX8_markClosings 27 = .ok (.iload_n 3, 1) := dOf oX8_markClosings_0 15 rfl
theorem dX8_markClosings_28 : decode cX8_markClosings 28 = .ok (.isub, 1) := dOf oX8_markClosings_0 16 rfl
theorem dX8_markClosings_29 : decode cX8_markClosings 29 = .ok (.baload, 1) := dOf oX8_markClosings_0 17 rfl
theorem dX8_markClosings_30 : decode cX8_markClosings 30 = .ok (.invokestatic 55, 3) := dOf oX8_markClosings_0 18 rfl
theorem dX8_markClosings_33 : decode cX8_markClosings 33 = .ok (.aload_n 0, 1) := dOf oX8_markClosings_0 19 rfl
theorem dX8_markClosings_34 : decode cX8_markClosings 34 = .ok (.getfield 24, 3) := dOf oX8_markClosings_0 20 rfl
theorem dX8_markClosings_37 : decode cX8_markClosings 37 = .ok (.getfield 44, 3) := dOf oX8_markClosings_0 21 rfl
theorem dX8_markClosings_40 : decode cX8_markClosings 40 = .ok (.aload_n 0, 1) := dOf oX8_markClosings_0 22 rfl
theorem dX8_markClosings_41 : decode cX8_markClosings 41 = .ok (.getfield 24, 3) := dOf oX8_markClosings_0 23 rfl
theorem dX8_markClosings_44 : decode cX8_markClosings 44 = .ok (.getfield 35, 3) := dOf oX8_markClosings_0 24 rfl
theorem dX8_markClosings_47 : decode cX8_markClosings 47 = .ok (.iload_n 3, 1) := dOf oX8_markClosings_0 25 rfl
theorem dX8_markClosings_48 : decode cX8_markClosings 48 = .ok (.isub, 1) := dOf oX8_markClosings_0 26 rfl
theorem dX8_markClosings_49 : decode cX8_markClosings 49 = .ok (.baload, 1) := dOf oX8_markClosings_0 27 rfl
theorem dX8_markClosings_50 : decode cX8_markClosings 50 = .ok (.if_icmp .eq 4, 3) := dOf oX8_markClosings_0 28 rfl
theorem dX8_markClosings_53 : decode cX8_markClosings 53 = .ok (.return_, 1) := dOf oX8_markClosings_0 29 rfl
theorem dX8_markClosings_54 : decode cX8_markClosings 54 = .ok (.aload_n 0, 1) := dOf oX8_markClosings_0 30 rfl
theorem dX8_markClosings_55 : decode cX8_markClosings 55 = .ok (.getfield 31, 3) := dOf oX8_markClosings_0 31 rfl
theorem dX8_markClosings_58 : decode cX8_markClosings 58 = .ok (.iload_n 2, 1) := dOf oX8_markClosings_0 32 rfl
theorem dX8_markClosings_59 : decode cX8_markClosings 59 = .ok (.iload_n 3, 1) := dOf oX8_markClosings_0 33 rfl
theorem dX8_markClosings_60 : decode cX8_markClosings 60 = .ok (.isub, 1) := dOf oX8_markClosings_0 34 rfl
theorem dX8_markClosings_61 : decode cX8_markClosings 61 = .ok (.bipush 17, 2) := dOf oX8_markClosings_0 35 rfl
theorem dX8_markClosings_63 : decode cX8_markClosings 63 = .ok (.imul, 1) := dOf oX8_markClosings_0 36 rfl
theorem dX8_markClosings_64 : decode cX8_markClosings 64 = .ok (.iload_n 2, 1) := dOf oX8_markClosings_0 37 rfl
theorem dX8_markClosings_65 : decode cX8_markClosings 65 = .ok (.iadd, 1) := dOf oX8_markClosings_0 38 rfl
theorem dX8_markClosings_66 : decode cX8_markClosings 66 = .ok (.dup2, 1) := dOf oX8_markClosings_0 39 rfl
theorem dX8_markClosings_67 : decode cX8_markClosings 67 = .ok (.baload, 1) := dOf oX8_markClosings_0 40 rfl
theorem dX8_markClosings_68 : decode cX8_markClosings 68 = .ok (.bipush 8, 2) := dOf oX8_markClosings_0 41 rfl
theorem dX8_markClosings_70 : decode cX8_markClosings 70 = .ok (.iload_n 1, 1) := dOf oX8_markClosings_0 42 rfl
theorem dX8_markClosings_71 : decode cX8_markClosings 71 = .ok (.ishl, 1) := dOf oX8_markClosings_0 43 rfl
theorem dX8_markClosings_72 : decode cX8_markClosings 72 = .ok (.ior, 1) := dOf oX8_markClosings_0 44 rfl
theorem dX8_markClosings_73 : decode cX8_markClosings 73 = .ok (.i2b, 1) := dOf oX8_markClosings_0 45 rfl
theorem dX8_markClosings_74 : decode cX8_markClosings 74 = .ok (.bastore, 1) := dOf oX8_markClosings_0 46 rfl
theorem dX8_markClosings_75 : decode cX8_markClosings 75 = .ok (.iinc 3 1, 3) := dOf oX8_markClosings_0 47 rfl
theorem dX8_markClosings_78 : decode cX8_markClosings 78 = .ok (.goto (-76), 3) := dOf oX8_markClosings_0 48 rfl
theorem dX8_markClosings_81 : decode cX8_markClosings 81 = .ok (.return_, 1) := dOf oX8_markClosings_0 49 rfl
def eX8_spanBits_0 : List (Nat × Instr × Nat) := [(0, .aload_n 0, 1), (1, .getfield 20, 3), (4, .iload_n 1, 1), (5, .iaload, 1), (6, .istore_n 3, 1), (7, .aload_n 0, 1), (8, .getfield 20, 3), (11, .iload_n 2, 1), (12, .iaload, 1), (13, .istore 4, 2), (15, .iload_n 3, 1), (16, .ifCond .lt 9, 3), (19, .iload 4, 2), (21, .iload_n 3, 1), (22, .if_icmp .gt 7, 3), (25, .iconst 0, 1), (26, .goto 15, 3), (29, .aload_n 0, 1), (30, .getfield 31, 3), (33, .iload_n 3, 1), (34, .bipush 17, 2), (36, .imul, 1), (37, .iload 4, 2), (39, .iadd, 1), (40, .baload, 1), (41, .ireturn, 1)]
theorem oX8_spanBits_0 : okC cX8_spanBits eX8_spanBits_0 = true := by decide +kernel
theorem dX8_spanBits_0 : decode cX8_spanBits 0 = .ok (.aload_n 0, 1) := dOf oX8_spanBits_0 0 rfl
theorem dX8_spanBits_1 : decode cX8_spanBits 1 = .ok (.getfield 20, 3) := dOf oX8_spanBits_0 1 rfl
theorem dX8_spanBits_4 : decode cX8_spanBits 4 = .ok (.iload_n 1, 1) := dOf oX8_spanBits_0 2 rfl
theorem dX8_spanBits_5 : decode cX8_spanBits 5 = .ok (.iaload, 1) := dOf oX8_spanBits_0 3 rfl
theorem dX8_spanBits_6 : decode cX8_spanBits 6 = .ok (.istore_n 3, 1) := dOf oX8_spanBits_0 4 rfl
theorem dX8_spanBits_7 : decode cX8_spanBits 7 = .ok (.aload_n 0, 1) := dOf oX8_spanBits_0 5 rfl
theorem dX8_spanBits_8 : decode cX8_spanBits 8 = .ok (.getfield 20, 3) := dOf oX8_spanBits_0 6 rfl
theorem dX8_spanBits_11 : decode cX8_spanBits 11 = .ok (.iload_n 2, 1) := dOf oX8_spanBits_0 7 rfl
theorem dX8_spanBits_12 : decode cX8_spanBits 12 = .ok (.iaload, 1) := dOf oX8_spanBits_0 8 rfl
theorem dX8_spanBits_13 : decode cX8_spanBits 13 = .ok (.istore 4, 2) := dOf oX8_spanBits_0 9 rfl
theorem dX8_spanBits_15 : decode cX8_spanBits 15 = .ok (.iload_n 3, 1) := dOf oX8_spanBits_0 10 rfl
theorem dX8_spanBits_16 : decode cX8_spanBits 16 = .ok (.ifCond .lt 9, 3) := dOf oX8_spanBits_0 11 rfl
theorem dX8_spanBits_19 : decode cX8_spanBits 19 = .ok (.iload 4, 2) := dOf oX8_spanBits_0 12 rfl
theorem dX8_spanBits_21 : decode cX8_spanBits 21 = .ok (.iload_n 3, 1) := dOf oX8_spanBits_0 13 rfl
theorem dX8_spanBits_22 : decode cX8_spanBits 22 = .ok (.if_icmp .gt 7, 3) := dOf oX8_spanBits_0 14 rfl
theorem dX8_spanBits_25 : decode cX8_spanBits 25 = .ok (.iconst 0, 1) := dOf oX8_spanBits_0 15 rfl
theorem dX8_spanBits_26 : decode cX8_spanBits 26 = .ok (.goto 15, 3) := dOf oX8_spanBits_0 16 rfl
theorem dX8_spanBits_29 : decode cX8_spanBits 29 = .ok (.aload_n 0, 1) := dOf oX8_spanBits_0 17 rfl
theorem dX8_spanBits_30 : decode cX8_spanBits 30 = .ok (.getfield 31, 3) := dOf oX8_spanBits_0 18 rfl
theorem dX8_spanBits_33 : decode cX8_spanBits 33 = .ok (.iload_n 3, 1) := dOf oX8_spanBits_0 19 rfl
theorem dX8_spanBits_34 : decode cX8_spanBits 34 = .ok (.bipush 17, 2) := dOf oX8_spanBits_0 20 rfl
theorem dX8_spanBits_36 : decode cX8_spanBits 36 = .ok (.imul, 1) := dOf oX8_spanBits_0 21 rfl
theorem dX8_spanBits_37 : decode cX8_spanBits 37 = .ok (.iload 4, 2) := dOf oX8_spanBits_0 22 rfl
theorem dX8_spanBits_39 : decode cX8_spanBits 39 = .ok (.iadd, 1) := dOf oX8_spanBits_0 23 rfl
theorem dX8_spanBits_40 : decode cX8_spanBits 40 = .ok (.baload, 1) := dOf oX8_spanBits_0 24 rfl
theorem dX8_spanBits_41 : decode cX8_spanBits 41 = .ok (.ireturn, 1) := dOf oX8_spanBits_0 25 rfl
def eX9_init_0 : List (Nat × Instr × Nat) := [(0, .aload_n 0, 1), (1, .invokespecial 3, 3), (4, .aload_n 0, 1), (5, .new 9, 3), (8, .dup, 1), (9, .bipush 60, 2), (11, .invokespecial 11, 3), (14, .putfield 14, 3), (17, .aload_n 0, 1), (18, .new 9, 3), (21, .dup, 1), (22, .bipush 35, 2), (24, .invokespecial 11, 3), (27, .putfield 18, 3), (30, .aload_n 0, 1), (31, .bipush 12, 2), (33, .anewarray 21, 3), (36, .putfield 23, 3), (39, .aload_n 0, 1), (40, .iconst 0, 1), (41, .putfield 27, 3), (44, .aload_n 0, 1), (45, .new 31, 3), (48, .dup, 1), (49, .invokespecial 33, 3), (52, .putfield 34, 3), (55, .aload_n 0, 1), (56, .iconst 0, 1), (57, .putfield 38, 3), (60, .aload_n 0, 1), (61, .iconst (-1), 1), (62, .putfield 42, 3), (65, .aload_n 0, 1), (66, .new 45, 3), (69, .dup, 1), (70, .invokespecial 47, 3), (73, .putfield 48, 3), (76, .aload_n 0, 1), (77, .sipush 512, 3), (80, .newarray .int, 2), (82, .putfield 52, 3), (85, .aload_n 0, 1), (86, .iconst 0, 1), (87, .putfield 56, 3), (90, .aload_n 0, 1), (91, .iconst 4, 1), (92, .anewarray 59, 3), (95, .putfield 61, 3), (98, .aload_n 0, 1), (99, .iconst 0, 1), (100, .putfield 65, 3), (103, .aload_n 0, 1), (104, .new 68, 3), (107, .dup, 1), (108, .invokespecial 70, 3), (111, .putfield 71, 3), (114, .aload_n 0, 1), (115, .iconst 4, 1), (116, .anewarray 75, 3), (119, .putfield 77, 3)]
theorem oX9_init_0 : okC cX9_init eX9_init_0 = true := by decide +kernel
theorem dX9_init_0 : decode cX9_init 0 = .ok (.aload_n 0, 1) := dOf oX9_init_0 0 rfl
theorem dX9_init_1 : decode cX9_init 1 = .ok (.invokespecial 3, 3) := dOf oX9_init_0 1 rfl
theorem dX9_init_4 : decode cX9_init 4 = .ok (.aload_n 0, 1) := dOf oX9_init_0 2 rfl
theorem dX9_init_5 : decode cX9_init 5 = .ok (.new 9, 3) := dOf oX9_init_0 3 rfl
theorem dX9_init_8 : decode cX9_init 8 = .ok (.dup, 1) := dOf oX9_init_0 4 rfl
theorem dX9_init_9 : decode cX9_init 9 = .ok (.bipush 60, 2) := dOf oX9_init_0 5 rfl
theorem dX9_init_11 : decode cX9_init 11 = .ok (.invokespecial 11, 3) := dOf oX9_init_0 6 rfl
theorem dX9_init_14 : decode cX9_init 14 = .ok (.putfield 14, 3) := dOf oX9_init_0 7 rfl
theorem dX9_init_17 : decode cX9_init 17 = .ok (.aload_n 0, 1) := dOf oX9_init_0 8 rfl
theorem dX9_init_18 : decode cX9_init 18 = .ok (.new 9, 3) := dOf oX9_init_0 9 rfl
theorem dX9_init_21 : decode cX9_init 21 = .ok (.dup, 1) := dOf oX9_init_0 10 rfl
theorem dX9_init_22 : decode cX9_init 22 = .ok (.bipush 35, 2) := dOf oX9_init_0 11 rfl
theorem dX9_init_24 : decode cX9_init 24 = .ok (.invokespecial 11, 3) := dOf oX9_init_0 12 rfl
theorem dX9_init_27 : decode cX9_init 27 = .ok (.putfield 18, 3) := dOf oX9_init_0 13 rfl
theorem dX9_init_30 : decode cX9_init 30 = .ok (.aload_n 0, 1) := dOf oX9_init_0 14 rfl
theorem dX9_init_31 : decode cX9_init 31 = .ok (.bipush 12, 2) := dOf oX9_init_0 15 rfl
theorem dX9_init_33 : decode cX9_init 33 = .ok (.anewarray 21, 3) := dOf oX9_init_0 16 rfl
theorem dX9_init_36 : decode cX9_init 36 = .ok (.putfield 23, 3) := dOf oX9_init_0 17 rfl
theorem dX9_init_39 : decode cX9_init 39 = .ok (.aload_n 0, 1) := dOf oX9_init_0 18 rfl
theorem dX9_init_40 : decode cX9_init 40 = .ok (.iconst 0, 1) := dOf oX9_init_0 19 rfl
theorem dX9_init_41 : decode cX9_init 41 = .ok (.putfield 27, 3) := dOf oX9_init_0 20 rfl
theorem dX9_init_44 : decode cX9_init 44 = .ok (.aload_n 0, 1) := dOf oX9_init_0 21 rfl
theorem dX9_init_45 : decode cX9_init 45 = .ok (.new 31, 3) := dOf oX9_init_0 22 rfl
theorem dX9_init_48 : decode cX9_init 48 = .ok (.dup, 1) := dOf oX9_init_0 23 rfl
theorem dX9_init_49 : decode cX9_init 49 = .ok (.invokespecial 33, 3) := dOf oX9_init_0 24 rfl
theorem dX9_init_52 : decode cX9_init 52 = .ok (.putfield 34, 3) := dOf oX9_init_0 25 rfl
theorem dX9_init_55 : decode cX9_init 55 = .ok (.aload_n 0, 1) := dOf oX9_init_0 26 rfl
theorem dX9_init_56 : decode cX9_init 56 = .ok (.iconst 0, 1) := dOf oX9_init_0 27 rfl
theorem dX9_init_57 : decode cX9_init 57 = .ok (.putfield 38, 3) := dOf oX9_init_0 28 rfl
theorem dX9_init_60 : decode cX9_init 60 = .ok (.aload_n 0, 1) := dOf oX9_init_0 29 rfl
theorem dX9_init_61 : decode cX9_init 61 = .ok (.iconst (-1), 1) := dOf oX9_init_0 30 rfl
theorem dX9_init_62 : decode cX9_init 62 = .ok (.putfield 42, 3) := dOf oX9_init_0 31 rfl
theorem dX9_init_65 : decode cX9_init 65 = .ok (.aload_n 0, 1) := dOf oX9_init_0 32 rfl
theorem dX9_init_66 : decode cX9_init 66 = .ok (.new 45, 3) := dOf oX9_init_0 33 rfl
theorem dX9_init_69 : decode cX9_init 69 = .ok (.dup, 1) := dOf oX9_init_0 34 rfl
theorem dX9_init_70 : decode cX9_init 70 = .ok (.invokespecial 47, 3) := dOf oX9_init_0 35 rfl
theorem dX9_init_73 : decode cX9_init 73 = .ok (.putfield 48, 3) := dOf oX9_init_0 36 rfl
theorem dX9_init_76 : decode cX9_init 76 = .ok (.aload_n 0, 1) := dOf oX9_init_0 37 rfl
theorem dX9_init_77 : decode cX9_init 77 = .ok (.sipush 512, 3) := dOf oX9_init_0 38 rfl
theorem dX9_init_80 : decode cX9_init 80 = .ok (.newarray .int, 2) := dOf oX9_init_0 39 rfl
theorem dX9_init_82 : decode cX9_init 82 = .ok (.putfield 52, 3) := dOf oX9_init_0 40 rfl
theorem dX9_init_85 : decode cX9_init 85 = .ok (.aload_n 0, 1) := dOf oX9_init_0 41 rfl
theorem dX9_init_86 : decode cX9_init 86 = .ok (.iconst 0, 1) := dOf oX9_init_0 42 rfl
theorem dX9_init_87 : decode cX9_init 87 = .ok (.putfield 56, 3) := dOf oX9_init_0 43 rfl
theorem dX9_init_90 : decode cX9_init 90 = .ok (.aload_n 0, 1) := dOf oX9_init_0 44 rfl
theorem dX9_init_91 : decode cX9_init 91 = .ok (.iconst 4, 1) := dOf oX9_init_0 45 rfl
theorem dX9_init_92 : decode cX9_init 92 = .ok (.anewarray 59, 3) := dOf oX9_init_0 46 rfl
theorem dX9_init_95 : decode cX9_init 95 = .ok (.putfield 61, 3) := dOf oX9_init_0 47 rfl
theorem dX9_init_98 : decode cX9_init 98 = .ok (.aload_n 0, 1) := dOf oX9_init_0 48 rfl
theorem dX9_init_99 : decode cX9_init 99 = .ok (.iconst 0, 1) := dOf oX9_init_0 49 rfl
theorem dX9_init_100 : decode cX9_init 100 = .ok (.putfield 65, 3) := dOf oX9_init_0 50 rfl
theorem dX9_init_103 : decode cX9_init 103 = .ok (.aload_n 0, 1) := dOf oX9_init_0 51 rfl
theorem dX9_init_104 : decode cX9_init 104 = .ok (.new 68, 3) := dOf oX9_init_0 52 rfl
theorem dX9_init_107 : decode cX9_init 107 = .ok (.dup, 1) := dOf oX9_init_0 53 rfl
theorem dX9_init_108 : decode cX9_init 108 = .ok (.invokespecial 70, 3) := dOf oX9_init_0 54 rfl
theorem dX9_init_111 : decode cX9_init 111 = .ok (.putfield 71, 3) := dOf oX9_init_0 55 rfl
theorem dX9_init_114 : decode cX9_init 114 = .ok (.aload_n 0, 1) := dOf oX9_init_0 56 rfl
theorem dX9_init_115 : decode cX9_init 115 = .ok (.iconst 4, 1) := dOf oX9_init_0 57 rfl
theorem dX9_init_116 : decode cX9_init 116 = .ok (.anewarray 75, 3) := dOf oX9_init_0 58 rfl
theorem dX9_init_119 : decode cX9_init 119 = .ok (.putfield 77, 3) := dOf oX9_init_0 59 rfl
def eX9_init_1 : List (Nat × Instr × Nat) := [(122, .iconst 0, 1), (123, .istore_n 1, 1), (124, .iload_n 1, 1), (125, .bipush 12, 2), (127, .if_icmp .ge 22, 3), (130, .aload_n 0, 1), (131, .getfield 23, 3), (134, .iload_n 1, 1), (135, .new 21, 3), (138, .dup, 1), (139, .invokespecial 81, 3), (142, .aastore, 1), (143, .iinc 1 1, 3), (146, .goto (-22), 3), (149, .iconst 0, 1), (150, .istore_n 1, 1), (151, .iload_n 1, 1), (152, .iconst 4, 1), (153, .if_icmp .ge 22, 3), (156, .aload_n 0, 1), (157, .getfield 61, 3), (160, .iload_n 1, 1), (161, .new 59, 3), (164, .dup, 1), (165, .invokespecial 82, 3), (168, .aastore, 1), (169, .iinc 1 1, 3), (172, .goto (-21), 3), (175, .iconst 0, 1), (176, .istore_n 1, 1), (177, .iload_n 1, 1), (178, .iconst 4, 1), (179, .if_icmp .ge 22, 3), (182, .aload_n 0, 1), (183, .getfield 77, 3), (186, .iload_n 1, 1), (187, .new 75, 3), (190, .dup, 1), (191, .invokespecial 83, 3), (194, .aastore, 1), (195, .iinc 1 1, 3), (198, .goto (-21), 3), (201, .return_, 1)]
theorem oX9_init_1 : okC cX9_init eX9_init_1 = true := by decide +kernel
theorem dX9_init_122 : decode cX9_init 122 = .ok (.iconst 0, 1) := dOf oX9_init_1 0 rfl
theorem dX9_init_123 : decode cX9_init 123 = .ok (.istore_n 1, 1) := dOf oX9_init_1 1 rfl
theorem dX9_init_124 : decode cX9_init 124 = .ok (.iload_n 1, 1) := dOf oX9_init_1 2 rfl
theorem dX9_init_125 : decode cX9_init 125 = .ok (.bipush 12, 2) := dOf oX9_init_1 3 rfl
theorem dX9_init_127 : decode cX9_init 127 = .ok (.if_icmp .ge 22, 3) := dOf oX9_init_1 4 rfl
theorem dX9_init_130 : decode cX9_init 130 = .ok (.aload_n 0, 1) := dOf oX9_init_1 5 rfl
theorem dX9_init_131 : decode cX9_init 131 = .ok (.getfield 23, 3) := dOf oX9_init_1 6 rfl
theorem dX9_init_134 : decode cX9_init 134 = .ok (.iload_n 1, 1) := dOf oX9_init_1 7 rfl
theorem dX9_init_135 : decode cX9_init 135 = .ok (.new 21, 3) := dOf oX9_init_1 8 rfl
theorem dX9_init_138 : decode cX9_init 138 = .ok (.dup, 1) := dOf oX9_init_1 9 rfl
theorem dX9_init_139 : decode cX9_init 139 = .ok (.invokespecial 81, 3) := dOf oX9_init_1 10 rfl
theorem dX9_init_142 : decode cX9_init 142 = .ok (.aastore, 1) := dOf oX9_init_1 11 rfl
theorem dX9_init_143 : decode cX9_init 143 = .ok (.iinc 1 1, 3) := dOf oX9_init_1 12 rfl
theorem dX9_init_146 : decode cX9_init 146 = .ok (.goto (-22), 3) := dOf oX9_init_1 13 rfl
theorem dX9_init_149 : decode cX9_init 149 = .ok (.iconst 0, 1) := dOf oX9_init_1 14 rfl
theorem dX9_init_150 : decode cX9_init 150 = .ok (.istore_n 1, 1) := dOf oX9_init_1 15 rfl
theorem dX9_init_151 : decode cX9_init 151 = .ok (.iload_n 1, 1) := dOf oX9_init_1 16 rfl
theorem dX9_init_152 : decode cX9_init 152 = .ok (.iconst 4, 1) := dOf oX9_init_1 17 rfl
theorem dX9_init_153 : decode cX9_init 153 = .ok (.if_icmp .ge 22, 3) := dOf oX9_init_1 18 rfl
theorem dX9_init_156 : decode cX9_init 156 = .ok (.aload_n 0, 1) := dOf oX9_init_1 19 rfl
theorem dX9_init_157 : decode cX9_init 157 = .ok (.getfield 61, 3) := dOf oX9_init_1 20 rfl
theorem dX9_init_160 : decode cX9_init 160 = .ok (.iload_n 1, 1) := dOf oX9_init_1 21 rfl
theorem dX9_init_161 : decode cX9_init 161 = .ok (.new 59, 3) := dOf oX9_init_1 22 rfl
theorem dX9_init_164 : decode cX9_init 164 = .ok (.dup, 1) := dOf oX9_init_1 23 rfl
theorem dX9_init_165 : decode cX9_init 165 = .ok (.invokespecial 82, 3) := dOf oX9_init_1 24 rfl
theorem dX9_init_168 : decode cX9_init 168 = .ok (.aastore, 1) := dOf oX9_init_1 25 rfl
theorem dX9_init_169 : decode cX9_init 169 = .ok (.iinc 1 1, 3) := dOf oX9_init_1 26 rfl
theorem dX9_init_172 : decode cX9_init 172 = .ok (.goto (-21), 3) := dOf oX9_init_1 27 rfl
theorem dX9_init_175 : decode cX9_init 175 = .ok (.iconst 0, 1) := dOf oX9_init_1 28 rfl
theorem dX9_init_176 : decode cX9_init 176 = .ok (.istore_n 1, 1) := dOf oX9_init_1 29 rfl
theorem dX9_init_177 : decode cX9_init 177 = .ok (.iload_n 1, 1) := dOf oX9_init_1 30 rfl
theorem dX9_init_178 : decode cX9_init 178 = .ok (.iconst 4, 1) := dOf oX9_init_1 31 rfl
theorem dX9_init_179 : decode cX9_init 179 = .ok (.if_icmp .ge 22, 3) := dOf oX9_init_1 32 rfl
theorem dX9_init_182 : decode cX9_init 182 = .ok (.aload_n 0, 1) := dOf oX9_init_1 33 rfl
theorem dX9_init_183 : decode cX9_init 183 = .ok (.getfield 77, 3) := dOf oX9_init_1 34 rfl
theorem dX9_init_186 : decode cX9_init 186 = .ok (.iload_n 1, 1) := dOf oX9_init_1 35 rfl
theorem dX9_init_187 : decode cX9_init 187 = .ok (.new 75, 3) := dOf oX9_init_1 36 rfl
theorem dX9_init_190 : decode cX9_init 190 = .ok (.dup, 1) := dOf oX9_init_1 37 rfl
theorem dX9_init_191 : decode cX9_init 191 = .ok (.invokespecial 83, 3) := dOf oX9_init_1 38 rfl
theorem dX9_init_194 : decode cX9_init 194 = .ok (.aastore, 1) := dOf oX9_init_1 39 rfl
theorem dX9_init_195 : decode cX9_init 195 = .ok (.iinc 1 1, 3) := dOf oX9_init_1 40 rfl
theorem dX9_init_198 : decode cX9_init 198 = .ok (.goto (-21), 3) := dOf oX9_init_1 41 rfl
theorem dX9_init_201 : decode cX9_init 201 = .ok (.return_, 1) := dOf oX9_init_1 42 rfl
def eX9_type_0 : List (Nat × Instr × Nat) := [(0, .iload_n 3, 1), (1, .iconst 1, 1), (2, .if_icmp .lt 9, 3), (5, .iload_n 3, 1), (6, .bipush 8, 2), (8, .if_icmp .le 5, 3), (11, .iconst (-1), 1), (12, .ireturn, 1), (13, .iconst 0, 1), (14, .istore 4, 2), (16, .iload 4, 2), (18, .iload_n 3, 1), (19, .if_icmp .ge 23, 3), (22, .lload_n 1, 1), (23, .iload 4, 2), (25, .invokestatic 84, 3), (28, .invokestatic 88, 3), (31, .ifCond .ne 5, 3), (34, .iconst (-1), 1), (35, .ireturn, 1), (36, .iinc 4 1, 3), (39, .goto (-23), 3), (42, .aload_n 0, 1), (43, .getfield 14, 3), (46, .getfield 92, 3), (49, .iload_n 3, 1), (50, .iadd, 1), (51, .bipush 60, 2), (53, .if_icmp .le 6, 3), (56, .bipush (-3), 2), (58, .ireturn, 1), (59, .iload_n 3, 1), (60, .iconst 1, 1), (61, .isub, 1), (62, .istore 4, 2), (64, .iload 4, 2), (66, .ifCond .lt 22, 3), (69, .aload_n 0, 1), (70, .getfield 14, 3), (73, .lload_n 1, 1), (74, .iload 4, 2), (76, .invokestatic 84, 3), (79, .invokevirtual 95, 3), (82, .iinc 4 (-1), 3), (85, .goto (-21), 3), (88, .aload_n 0, 1), (89, .getfield 14, 3), (92, .getfield 92, 3), (95, .ireturn, 1)]
theorem oX9_type_0 : okC cX9_type eX9_type_0 = true := by decide +kernel
theorem dX9_type_0 : decode cX9_type 0 = .ok (.iload_n 3, 1) := dOf oX9_type_0 0 rfl
theorem dX9_type_1 : decode cX9_type 1 = .ok (.iconst 1, 1) := dOf oX9_type_0 1 rfl
theorem dX9_type_2 : decode cX9_type 2 = .ok (.if_icmp .lt 9, 3) := dOf oX9_type_0 2 rfl
theorem dX9_type_5 : decode cX9_type 5 = .ok (.iload_n 3, 1) := dOf oX9_type_0 3 rfl
theorem dX9_type_6 : decode cX9_type 6 = .ok (.bipush 8, 2) := dOf oX9_type_0 4 rfl
theorem dX9_type_8 : decode cX9_type 8 = .ok (.if_icmp .le 5, 3) := dOf oX9_type_0 5 rfl
theorem dX9_type_11 : decode cX9_type 11 = .ok (.iconst (-1), 1) := dOf oX9_type_0 6 rfl
theorem dX9_type_12 : decode cX9_type 12 = .ok (.ireturn, 1) := dOf oX9_type_0 7 rfl
theorem dX9_type_13 : decode cX9_type 13 = .ok (.iconst 0, 1) := dOf oX9_type_0 8 rfl
theorem dX9_type_14 : decode cX9_type 14 = .ok (.istore 4, 2) := dOf oX9_type_0 9 rfl
theorem dX9_type_16 : decode cX9_type 16 = .ok (.iload 4, 2) := dOf oX9_type_0 10 rfl
theorem dX9_type_18 : decode cX9_type 18 = .ok (.iload_n 3, 1) := dOf oX9_type_0 11 rfl
theorem dX9_type_19 : decode cX9_type 19 = .ok (.if_icmp .ge 23, 3) := dOf oX9_type_0 12 rfl
theorem dX9_type_22 : decode cX9_type 22 = .ok (.lload_n 1, 1) := dOf oX9_type_0 13 rfl
theorem dX9_type_23 : decode cX9_type 23 = .ok (.iload 4, 2) := dOf oX9_type_0 14 rfl
theorem dX9_type_25 : decode cX9_type 25 = .ok (.invokestatic 84, 3) := dOf oX9_type_0 15 rfl
theorem dX9_type_28 : decode cX9_type 28 = .ok (.invokestatic 88, 3) := dOf oX9_type_0 16 rfl
theorem dX9_type_31 : decode cX9_type 31 = .ok (.ifCond .ne 5, 3) := dOf oX9_type_0 17 rfl
theorem dX9_type_34 : decode cX9_type 34 = .ok (.iconst (-1), 1) := dOf oX9_type_0 18 rfl
theorem dX9_type_35 : decode cX9_type 35 = .ok (.ireturn, 1) := dOf oX9_type_0 19 rfl
theorem dX9_type_36 : decode cX9_type 36 = .ok (.iinc 4 1, 3) := dOf oX9_type_0 20 rfl
theorem dX9_type_39 : decode cX9_type 39 = .ok (.goto (-23), 3) := dOf oX9_type_0 21 rfl
theorem dX9_type_42 : decode cX9_type 42 = .ok (.aload_n 0, 1) := dOf oX9_type_0 22 rfl
theorem dX9_type_43 : decode cX9_type 43 = .ok (.getfield 14, 3) := dOf oX9_type_0 23 rfl
theorem dX9_type_46 : decode cX9_type 46 = .ok (.getfield 92, 3) := dOf oX9_type_0 24 rfl
theorem dX9_type_49 : decode cX9_type 49 = .ok (.iload_n 3, 1) := dOf oX9_type_0 25 rfl
theorem dX9_type_50 : decode cX9_type 50 = .ok (.iadd, 1) := dOf oX9_type_0 26 rfl
theorem dX9_type_51 : decode cX9_type 51 = .ok (.bipush 60, 2) := dOf oX9_type_0 27 rfl
theorem dX9_type_53 : decode cX9_type 53 = .ok (.if_icmp .le 6, 3) := dOf oX9_type_0 28 rfl
theorem dX9_type_56 : decode cX9_type 56 = .ok (.bipush (-3), 2) := dOf oX9_type_0 29 rfl
theorem dX9_type_58 : decode cX9_type 58 = .ok (.ireturn, 1) := dOf oX9_type_0 30 rfl
theorem dX9_type_59 : decode cX9_type 59 = .ok (.iload_n 3, 1) := dOf oX9_type_0 31 rfl
theorem dX9_type_60 : decode cX9_type 60 = .ok (.iconst 1, 1) := dOf oX9_type_0 32 rfl
theorem dX9_type_61 : decode cX9_type 61 = .ok (.isub, 1) := dOf oX9_type_0 33 rfl
theorem dX9_type_62 : decode cX9_type 62 = .ok (.istore 4, 2) := dOf oX9_type_0 34 rfl
theorem dX9_type_64 : decode cX9_type 64 = .ok (.iload 4, 2) := dOf oX9_type_0 35 rfl
theorem dX9_type_66 : decode cX9_type 66 = .ok (.ifCond .lt 22, 3) := dOf oX9_type_0 36 rfl
theorem dX9_type_69 : decode cX9_type 69 = .ok (.aload_n 0, 1) := dOf oX9_type_0 37 rfl
theorem dX9_type_70 : decode cX9_type 70 = .ok (.getfield 14, 3) := dOf oX9_type_0 38 rfl
theorem dX9_type_73 : decode cX9_type 73 = .ok (.lload_n 1, 1) := dOf oX9_type_0 39 rfl
theorem dX9_type_74 : decode cX9_type 74 = .ok (.iload 4, 2) := dOf oX9_type_0 40 rfl
theorem dX9_type_76 : decode cX9_type 76 = .ok (.invokestatic 84, 3) := dOf oX9_type_0 41 rfl
theorem dX9_type_79 : decode cX9_type 79 = .ok (.invokevirtual 95, 3) := dOf oX9_type_0 42 rfl
theorem dX9_type_82 : decode cX9_type 82 = .ok (.iinc 4 (-1), 3) := dOf oX9_type_0 43 rfl
theorem dX9_type_85 : decode cX9_type 85 = .ok (.goto (-21), 3) := dOf oX9_type_0 44 rfl
theorem dX9_type_88 : decode cX9_type 88 = .ok (.aload_n 0, 1) := dOf oX9_type_0 45 rfl
theorem dX9_type_89 : decode cX9_type 89 = .ok (.getfield 14, 3) := dOf oX9_type_0 46 rfl
theorem dX9_type_92 : decode cX9_type 92 = .ok (.getfield 92, 3) := dOf oX9_type_0 47 rfl
theorem dX9_type_95 : decode cX9_type 95 = .ok (.ireturn, 1) := dOf oX9_type_0 48 rfl
def eX9_thing_0 : List (Nat × Instr × Nat) := [(0, .aload_n 0, 1), (1, .getfield 14, 3), (4, .getfield 92, 3), (7, .iconst 1, 1), (8, .if_icmp .lt 15, 3), (11, .aload_n 0, 1), (12, .getfield 14, 3), (15, .getfield 92, 3), (18, .bipush 16, 2), (20, .if_icmp .le 8, 3), (23, .bipush (-2), 2), (25, .goto 11, 3), (28, .aload_n 0, 1), (29, .aload_n 0, 1), (30, .getfield 14, 3), (33, .invokevirtual 98, 3), (36, .istore_n 1, 1), (37, .aload_n 0, 1), (38, .getfield 14, 3), (41, .invokevirtual 102, 3), (44, .iload_n 1, 1), (45, .ireturn, 1)]
theorem oX9_thing_0 : okC cX9_thing eX9_thing_0 = true := by decide +kernel
theorem dX9_thing_0 : decode cX9_thing 0 = .ok (.aload_n 0, 1) := dOf oX9_thing_0 0 rfl
theorem dX9_thing_1 : decode cX9_thing 1 = .ok (.getfield 14, 3) := dOf oX9_thing_0 1 rfl
theorem dX9_thing_4 : decode cX9_thing 4 = .ok (.getfield 92, 3) := dOf oX9_thing_0 2 rfl
theorem dX9_thing_7 : decode cX9_thing 7 = .ok (.iconst 1, 1) := dOf oX9_thing_0 3 rfl
theorem dX9_thing_8 : decode cX9_thing 8 = .ok (.if_icmp .lt 15, 3) := dOf oX9_thing_0 4 rfl
theorem dX9_thing_11 : decode cX9_thing 11 = .ok (.aload_n 0, 1) := dOf oX9_thing_0 5 rfl
theorem dX9_thing_12 : decode cX9_thing 12 = .ok (.getfield 14, 3) := dOf oX9_thing_0 6 rfl
theorem dX9_thing_15 : decode cX9_thing 15 = .ok (.getfield 92, 3) := dOf oX9_thing_0 7 rfl
theorem dX9_thing_18 : decode cX9_thing 18 = .ok (.bipush 16, 2) := dOf oX9_thing_0 8 rfl
theorem dX9_thing_20 : decode cX9_thing 20 = .ok (.if_icmp .le 8, 3) := dOf oX9_thing_0 9 rfl
theorem dX9_thing_23 : decode cX9_thing 23 = .ok (.bipush (-2), 2) := dOf oX9_thing_0 10 rfl
theorem dX9_thing_25 : decode cX9_thing 25 = .ok (.goto 11, 3) := dOf oX9_thing_0 11 rfl
theorem dX9_thing_28 : decode cX9_thing 28 = .ok (.aload_n 0, 1) := dOf oX9_thing_0 12 rfl
theorem dX9_thing_29 : decode cX9_thing 29 = .ok (.aload_n 0, 1) := dOf oX9_thing_0 13 rfl
theorem dX9_thing_30 : decode cX9_thing 30 = .ok (.getfield 14, 3) := dOf oX9_thing_0 14 rfl
theorem dX9_thing_33 : decode cX9_thing 33 = .ok (.invokevirtual 98, 3) := dOf oX9_thing_0 15 rfl
theorem dX9_thing_36 : decode cX9_thing 36 = .ok (.istore_n 1, 1) := dOf oX9_thing_0 16 rfl
theorem dX9_thing_37 : decode cX9_thing 37 = .ok (.aload_n 0, 1) := dOf oX9_thing_0 17 rfl
theorem dX9_thing_38 : decode cX9_thing 38 = .ok (.getfield 14, 3) := dOf oX9_thing_0 18 rfl
theorem dX9_thing_41 : decode cX9_thing 41 = .ok (.invokevirtual 102, 3) := dOf oX9_thing_0 19 rfl
theorem dX9_thing_44 : decode cX9_thing 44 = .ok (.iload_n 1, 1) := dOf oX9_thing_0 20 rfl
theorem dX9_thing_45 : decode cX9_thing 45 = .ok (.ireturn, 1) := dOf oX9_thing_0 21 rfl
def eX9_line_0 : List (Nat × Instr × Nat) := [(0, .iload_n 1, 1), (1, .invokestatic 105, 3), (4, .ifCond .eq 23, 3), (7, .iload_n 2, 1), (8, .invokestatic 108, 3), (11, .ifCond .eq 16, 3), (14, .iload 4, 2), (16, .iconst 1, 1), (17, .if_icmp .lt 10, 3), (20, .iload 4, 2), (22, .bipush 16, 2), (24, .if_icmp .le 5, 3), (27, .iconst (-1), 1), (28, .ireturn, 1), (29, .aload_n 0, 1), (30, .getfield 77, 3), (33, .iload_n 1, 1), (34, .aaload, 1), (35, .astore 5, 2), (37, .aload 5, 2), (39, .iload_n 2, 1), (40, .invokevirtual 111, 3), (43, .istore 6, 2), (45, .iload 6, 2), (47, .ifCond .eq 6, 3), (50, .iload 6, 2), (52, .ireturn, 1), (53, .aload 5, 2), (55, .iload_n 3, 1), (56, .iload 4, 2), (58, .invokevirtual 115, 3), (61, .ifCond .ne 6, 3), (64, .bipush (-13), 2), (66, .ireturn, 1), (67, .aload_n 0, 1), (68, .getfield 18, 3), (71, .invokevirtual 102, 3), (74, .iload_n 3, 1), (75, .istore 7, 2), (77, .iload 7, 2), (79, .iload_n 3, 1), (80, .iload 4, 2), (82, .iadd, 1), (83, .if_icmp .ge 41, 3), (86, .aload 5, 2), (88, .getfield 119, 3), (91, .iload 7, 2), (93, .iaload, 1), (94, .invokestatic 88, 3), (97, .ifCond .ne 6, 3), (100, .bipush (-2), 2), (102, .ireturn, 1), (103, .aload_n 0, 1), (104, .getfield 18, 3), (107, .aload 5, 2), (109, .getfield 119, 3), (112, .iload 7, 2), (114, .iaload, 1), (115, .invokevirtual 95, 3), (118, .iinc 7 1, 3)]
theorem oX9_line_0 : okC cX9_line eX9_line_0 = true := by decide +kernel
theorem dX9_line_0 : decode cX9_line 0 = .ok (.iload_n 1, 1) := dOf oX9_line_0 0 rfl
theorem dX9_line_1 : decode cX9_line 1 = .ok (.invokestatic 105, 3) := dOf oX9_line_0 1 rfl
theorem dX9_line_4 : decode cX9_line 4 = .ok (.ifCond .eq 23, 3) := dOf oX9_line_0 2 rfl
theorem dX9_line_7 : decode cX9_line 7 = .ok (.iload_n 2, 1) := dOf oX9_line_0 3 rfl
theorem dX9_line_8 : decode cX9_line 8 = .ok (.invokestatic 108, 3) := dOf oX9_line_0 4 rfl
theorem dX9_line_11 : decode cX9_line 11 = .ok (.ifCond .eq 16, 3) := dOf oX9_line_0 5 rfl
theorem dX9_line_14 : decode cX9_line 14 = .ok (.iload 4, 2) := dOf oX9_line_0 6 rfl
theorem dX9_line_16 : decode cX9_line 16 = .ok (.iconst 1, 1) := dOf oX9_line_0 7 rfl
theorem dX9_line_17 : decode cX9_line 17 = .ok (.if_icmp .lt 10, 3) := dOf oX9_line_0 8 rfl
theorem dX9_line_20 : decode cX9_line 20 = .ok (.iload 4, 2) := dOf oX9_line_0 9 rfl
theorem dX9_line_22 : decode cX9_line 22 = .ok (.bipush 16, 2) := dOf oX9_line_0 10 rfl
theorem dX9_line_24 : decode cX9_line 24 = .ok (.if_icmp .le 5, 3) := dOf oX9_line_0 11 rfl
theorem dX9_line_27 : decode cX9_line 27 = .ok (.iconst (-1), 1) := dOf oX9_line_0 12 rfl
theorem dX9_line_28 : decode cX9_line 28 = .ok (.ireturn, 1) := dOf oX9_line_0 13 rfl
theorem dX9_line_29 : decode cX9_line 29 = .ok (.aload_n 0, 1) := dOf oX9_line_0 14 rfl
theorem dX9_line_30 : decode cX9_line 30 = .ok (.getfield 77, 3) := dOf oX9_line_0 15 rfl
theorem dX9_line_33 : decode cX9_line 33 = .ok (.iload_n 1, 1) := dOf oX9_line_0 16 rfl
theorem dX9_line_34 : decode cX9_line 34 = .ok (.aaload, 1) := dOf oX9_line_0 17 rfl
theorem dX9_line_35 : decode cX9_line 35 = .ok (.astore 5, 2) := dOf oX9_line_0 18 rfl
theorem dX9_line_37 : decode cX9_line 37 = .ok (.aload 5, 2) := dOf oX9_line_0 19 rfl
theorem dX9_line_39 : decode cX9_line 39 = .ok (.iload_n 2, 1) := dOf oX9_line_0 20 rfl
theorem dX9_line_40 : decode cX9_line 40 = .ok (.invokevirtual 111, 3) := dOf oX9_line_0 21 rfl
theorem dX9_line_43 : decode cX9_line 43 = .ok (.istore 6, 2) := dOf oX9_line_0 22 rfl
theorem dX9_line_45 : decode cX9_line 45 = .ok (.iload 6, 2) := dOf oX9_line_0 23 rfl
theorem dX9_line_47 : decode cX9_line 47 = .ok (.ifCond .eq 6, 3) := dOf oX9_line_0 24 rfl
theorem dX9_line_50 : decode cX9_line 50 = .ok (.iload 6, 2) := dOf oX9_line_0 25 rfl
theorem dX9_line_52 : decode cX9_line 52 = .ok (.ireturn, 1) := dOf oX9_line_0 26 rfl
theorem dX9_line_53 : decode cX9_line 53 = .ok (.aload 5, 2) := dOf oX9_line_0 27 rfl
theorem dX9_line_55 : decode cX9_line 55 = .ok (.iload_n 3, 1) := dOf oX9_line_0 28 rfl
theorem dX9_line_56 : decode cX9_line 56 = .ok (.iload 4, 2) := dOf oX9_line_0 29 rfl
theorem dX9_line_58 : decode cX9_line 58 = .ok (.invokevirtual 115, 3) := dOf oX9_line_0 30 rfl
theorem dX9_line_61 : decode cX9_line 61 = .ok (.ifCond .ne 6, 3) := dOf oX9_line_0 31 rfl
theorem dX9_line_64 : decode cX9_line 64 = .ok (.bipush (-13), 2) := dOf oX9_line_0 32 rfl
theorem dX9_line_66 : decode cX9_line 66 = .ok (.ireturn, 1) := dOf oX9_line_0 33 rfl
theorem dX9_line_67 : decode cX9_line 67 = .ok (.aload_n 0, 1) := dOf oX9_line_0 34 rfl
theorem dX9_line_68 : decode cX9_line 68 = .ok (.getfield 18, 3) := dOf oX9_line_0 35 rfl
theorem dX9_line_71 : decode cX9_line 71 = .ok (.invokevirtual 102, 3) := dOf oX9_line_0 36 rfl
theorem dX9_line_74 : decode cX9_line 74 = .ok (.iload_n 3, 1) := dOf oX9_line_0 37 rfl
theorem dX9_line_75 : decode cX9_line 75 = .ok (.istore 7, 2) := dOf oX9_line_0 38 rfl
theorem dX9_line_77 : decode cX9_line 77 = .ok (.iload 7, 2) := dOf oX9_line_0 39 rfl
theorem dX9_line_79 : decode cX9_line 79 = .ok (.iload_n 3, 1) := dOf oX9_line_0 40 rfl
theorem dX9_line_80 : decode cX9_line 80 = .ok (.iload 4, 2) := dOf oX9_line_0 41 rfl
theorem dX9_line_82 : decode cX9_line 82 = .ok (.iadd, 1) := dOf oX9_line_0 42 rfl
theorem dX9_line_83 : decode cX9_line 83 = .ok (.if_icmp .ge 41, 3) := dOf oX9_line_0 43 rfl
theorem dX9_line_86 : decode cX9_line 86 = .ok (.aload 5, 2) := dOf oX9_line_0 44 rfl
theorem dX9_line_88 : decode cX9_line 88 = .ok (.getfield 119, 3) := dOf oX9_line_0 45 rfl
theorem dX9_line_91 : decode cX9_line 91 = .ok (.iload 7, 2) := dOf oX9_line_0 46 rfl
theorem dX9_line_93 : decode cX9_line 93 = .ok (.iaload, 1) := dOf oX9_line_0 47 rfl
theorem dX9_line_94 : decode cX9_line 94 = .ok (.invokestatic 88, 3) := dOf oX9_line_0 48 rfl
theorem dX9_line_97 : decode cX9_line 97 = .ok (.ifCond .ne 6, 3) := dOf oX9_line_0 49 rfl
theorem dX9_line_100 : decode cX9_line 100 = .ok (.bipush (-2), 2) := dOf oX9_line_0 50 rfl
theorem dX9_line_102 : decode cX9_line 102 = .ok (.ireturn, 1) := dOf oX9_line_0 51 rfl
theorem dX9_line_103 : decode cX9_line 103 = .ok (.aload_n 0, 1) := dOf oX9_line_0 52 rfl
theorem dX9_line_104 : decode cX9_line 104 = .ok (.getfield 18, 3) := dOf oX9_line_0 53 rfl
theorem dX9_line_107 : decode cX9_line 107 = .ok (.aload 5, 2) := dOf oX9_line_0 54 rfl
theorem dX9_line_109 : decode cX9_line 109 = .ok (.getfield 119, 3) := dOf oX9_line_0 55 rfl
theorem dX9_line_112 : decode cX9_line 112 = .ok (.iload 7, 2) := dOf oX9_line_0 56 rfl
theorem dX9_line_114 : decode cX9_line 114 = .ok (.iaload, 1) := dOf oX9_line_0 57 rfl
theorem dX9_line_115 : decode cX9_line 115 = .ok (.invokevirtual 95, 3) := dOf oX9_line_0 58 rfl
theorem dX9_line_118 : decode cX9_line 118 = .ok (.iinc 7 1, 3) := dOf oX9_line_0 59 rfl
def eX9_line_1 : List (Nat × Instr × Nat) := [(121, .goto (-44), 3), (124, .aload_n 0, 1), (125, .aload_n 0, 1), (126, .getfield 18, 3), (129, .invokevirtual 98, 3), (132, .ireturn, 1)]
theorem oX9_line_1 : okC cX9_line eX9_line_1 = true := by decide +kernel
theorem dX9_line_121 : decode cX9_line 121 = .ok (.goto (-44), 3) := dOf oX9_line_1 0 rfl
theorem dX9_line_124 : decode cX9_line 124 = .ok (.aload_n 0, 1) := dOf oX9_line_1 1 rfl
theorem dX9_line_125 : decode cX9_line 125 = .ok (.aload_n 0, 1) := dOf oX9_line_1 2 rfl
theorem dX9_line_126 : decode cX9_line 126 = .ok (.getfield 18, 3) := dOf oX9_line_1 3 rfl
theorem dX9_line_129 : decode cX9_line 129 = .ok (.invokevirtual 98, 3) := dOf oX9_line_1 4 rfl
theorem dX9_line_132 : decode cX9_line 132 = .ok (.ireturn, 1) := dOf oX9_line_1 5 rfl
def eX9_byteAt_0 : List (Nat × Instr × Nat) := [(0, .aload_n 0, 1), (1, .iload_n 1, 1), (2, .invokevirtual 122, 3), (5, .ifCond .eq 19, 3), (8, .aload_n 0, 1), (9, .getfield 23, 3), (12, .iload_n 1, 1), (13, .aaload, 1), (14, .getfield 125, 3), (17, .iload_n 2, 1), (18, .invokevirtual 128, 3), (21, .goto 4, 3), (24, .iconst (-1), 1), (25, .ireturn, 1)]
theorem oX9_byteAt_0 : okC cX9_byteAt eX9_byteAt_0 = true := by decide +kernel
theorem dX9_byteAt_0 : decode cX9_byteAt 0 = .ok (.aload_n 0, 1) := dOf oX9_byteAt_0 0 rfl
theorem dX9_byteAt_1 : decode cX9_byteAt 1 = .ok (.iload_n 1, 1) := dOf oX9_byteAt_0 1 rfl
theorem dX9_byteAt_2 : decode cX9_byteAt 2 = .ok (.invokevirtual 122, 3) := dOf oX9_byteAt_0 2 rfl
theorem dX9_byteAt_5 : decode cX9_byteAt 5 = .ok (.ifCond .eq 19, 3) := dOf oX9_byteAt_0 3 rfl
theorem dX9_byteAt_8 : decode cX9_byteAt 8 = .ok (.aload_n 0, 1) := dOf oX9_byteAt_0 4 rfl
theorem dX9_byteAt_9 : decode cX9_byteAt 9 = .ok (.getfield 23, 3) := dOf oX9_byteAt_0 5 rfl
theorem dX9_byteAt_12 : decode cX9_byteAt 12 = .ok (.iload_n 1, 1) := dOf oX9_byteAt_0 6 rfl
theorem dX9_byteAt_13 : decode cX9_byteAt 13 = .ok (.aaload, 1) := dOf oX9_byteAt_0 7 rfl
theorem dX9_byteAt_14 : decode cX9_byteAt 14 = .ok (.getfield 125, 3) := dOf oX9_byteAt_0 8 rfl
theorem dX9_byteAt_17 : decode cX9_byteAt 17 = .ok (.iload_n 2, 1) := dOf oX9_byteAt_0 9 rfl
theorem dX9_byteAt_18 : decode cX9_byteAt 18 = .ok (.invokevirtual 128, 3) := dOf oX9_byteAt_0 10 rfl
theorem dX9_byteAt_21 : decode cX9_byteAt 21 = .ok (.goto 4, 3) := dOf oX9_byteAt_0 11 rfl
theorem dX9_byteAt_24 : decode cX9_byteAt 24 = .ok (.iconst (-1), 1) := dOf oX9_byteAt_0 12 rfl
theorem dX9_byteAt_25 : decode cX9_byteAt 25 = .ok (.ireturn, 1) := dOf oX9_byteAt_0 13 rfl
def eX9_place_0 : List (Nat × Instr × Nat) := [(0, .aload_n 0, 1), (1, .iload_n 1, 1), (2, .invokevirtual 122, 3), (5, .ifCond .eq 13, 3), (8, .iload_n 2, 1), (9, .ifCond .lt 9, 3), (12, .iload_n 2, 1), (13, .bipush 40, 2), (15, .if_icmp .lt 5, 3), (18, .iconst (-1), 1), (19, .ireturn, 1), (20, .aload_n 0, 1), (21, .getfield 23, 3), (24, .iload_n 1, 1), (25, .aaload, 1), (26, .getfield 131, 3), (29, .iload_n 2, 1), (30, .iaload, 1), (31, .istore_n 3, 1), (32, .iload_n 3, 1), (33, .ifCond .ge 8, 3), (36, .bipush (-4), 2), (38, .goto 4, 3), (41, .iload_n 3, 1), (42, .ireturn, 1)]
theorem oX9_place_0 : okC cX9_place eX9_place_0 = true := by decide +kernel
theorem dX9_place_0 : decode cX9_place 0 = .ok (.aload_n 0, 1) := dOf oX9_place_0 0 rfl
theorem dX9_place_1 : decode cX9_place 1 = .ok (.iload_n 1, 1) := dOf oX9_place_0 1 rfl
theorem dX9_place_2 : decode cX9_place 2 = .ok (.invokevirtual 122, 3) := dOf oX9_place_0 2 rfl
theorem dX9_place_5 : decode cX9_place 5 = .ok (.ifCond .eq 13, 3) := dOf oX9_place_0 3 rfl
theorem dX9_place_8 : decode cX9_place 8 = .ok (.iload_n 2, 1) := dOf oX9_place_0 4 rfl
theorem dX9_place_9 : decode cX9_place 9 = .ok (.ifCond .lt 9, 3) := dOf oX9_place_0 5 rfl
theorem dX9_place_12 : decode cX9_place 12 = .ok (.iload_n 2, 1) := dOf oX9_place_0 6 rfl
theorem dX9_place_13 : decode cX9_place 13 = .ok (.bipush 40, 2) := dOf oX9_place_0 7 rfl
theorem dX9_place_15 : decode cX9_place 15 = .ok (.if_icmp .lt 5, 3) := dOf oX9_place_0 8 rfl
theorem dX9_place_18 : decode cX9_place 18 = .ok (.iconst (-1), 1) := dOf oX9_place_0 9 rfl
theorem dX9_place_19 : decode cX9_place 19 = .ok (.ireturn, 1) := dOf oX9_place_0 10 rfl
theorem dX9_place_20 : decode cX9_place 20 = .ok (.aload_n 0, 1) := dOf oX9_place_0 11 rfl
theorem dX9_place_21 : decode cX9_place 21 = .ok (.getfield 23, 3) := dOf oX9_place_0 12 rfl
theorem dX9_place_24 : decode cX9_place 24 = .ok (.iload_n 1, 1) := dOf oX9_place_0 13 rfl
theorem dX9_place_25 : decode cX9_place 25 = .ok (.aaload, 1) := dOf oX9_place_0 14 rfl
theorem dX9_place_26 : decode cX9_place 26 = .ok (.getfield 131, 3) := dOf oX9_place_0 15 rfl
theorem dX9_place_29 : decode cX9_place 29 = .ok (.iload_n 2, 1) := dOf oX9_place_0 16 rfl
theorem dX9_place_30 : decode cX9_place 30 = .ok (.iaload, 1) := dOf oX9_place_0 17 rfl
theorem dX9_place_31 : decode cX9_place 31 = .ok (.istore_n 3, 1) := dOf oX9_place_0 18 rfl
theorem dX9_place_32 : decode cX9_place 32 = .ok (.iload_n 3, 1) := dOf oX9_place_0 19 rfl
theorem dX9_place_33 : decode cX9_place 33 = .ok (.ifCond .ge 8, 3) := dOf oX9_place_0 20 rfl
theorem dX9_place_36 : decode cX9_place 36 = .ok (.bipush (-4), 2) := dOf oX9_place_0 21 rfl
theorem dX9_place_38 : decode cX9_place 38 = .ok (.goto 4, 3) := dOf oX9_place_0 22 rfl
theorem dX9_place_41 : decode cX9_place 41 = .ok (.iload_n 3, 1) := dOf oX9_place_0 23 rfl
theorem dX9_place_42 : decode cX9_place 42 = .ok (.ireturn, 1) := dOf oX9_place_0 24 rfl
def eX9_made_0 : List (Nat × Instr × Nat) := [(0, .aload_n 0, 1), (1, .iload_n 1, 1), (2, .invokevirtual 122, 3), (5, .ifCond .eq 15, 3), (8, .iload_n 2, 1), (9, .invokestatic 134, 3), (12, .ifCond .eq 8, 3), (15, .iload_n 3, 1), (16, .iconst (-1), 1), (17, .if_icmp .ge 5, 3), (20, .iconst (-1), 1), (21, .ireturn, 1), (22, .aload_n 0, 1), (23, .getfield 18, 3), (26, .invokevirtual 102, 3), (29, .aload_n 0, 1), (30, .getfield 23, 3), (33, .iload_n 1, 1), (34, .aaload, 1), (35, .iload_n 2, 1), (36, .aload_n 0, 1), (37, .getfield 18, 3), (40, .invokevirtual 137, 3), (43, .ifCond .eq 14, 3), (46, .aload_n 0, 1), (47, .getfield 18, 3), (50, .iload_n 3, 1), (51, .invokevirtual 128, 3), (54, .goto 5, 3), (57, .bipush (-4), 2), (59, .ireturn, 1)]
theorem oX9_made_0 : okC cX9_made eX9_made_0 = true := by decide +kernel
theorem dX9_made_0 : decode cX9_made 0 = .ok (.aload_n 0, 1) := dOf oX9_made_0 0 rfl
theorem dX9_made_1 : decode cX9_made 1 = .ok (.iload_n 1, 1) := dOf oX9_made_0 1 rfl
theorem dX9_made_2 : decode cX9_made 2 = .ok (.invokevirtual 122, 3) := dOf oX9_made_0 2 rfl
theorem dX9_made_5 : decode cX9_made 5 = .ok (.ifCond .eq 15, 3) := dOf oX9_made_0 3 rfl
theorem dX9_made_8 : decode cX9_made 8 = .ok (.iload_n 2, 1) := dOf oX9_made_0 4 rfl
theorem dX9_made_9 : decode cX9_made 9 = .ok (.invokestatic 134, 3) := dOf oX9_made_0 5 rfl
theorem dX9_made_12 : decode cX9_made 12 = .ok (.ifCond .eq 8, 3) := dOf oX9_made_0 6 rfl
theorem dX9_made_15 : decode cX9_made 15 = .ok (.iload_n 3, 1) := dOf oX9_made_0 7 rfl
theorem dX9_made_16 : decode cX9_made 16 = .ok (.iconst (-1), 1) := dOf oX9_made_0 8 rfl
theorem dX9_made_17 : decode cX9_made 17 = .ok (.if_icmp .ge 5, 3) := dOf oX9_made_0 9 rfl
theorem dX9_made_20 : decode cX9_made 20 = .ok (.iconst (-1), 1) := dOf oX9_made_0 10 rfl
theorem dX9_made_21 : decode cX9_made 21 = .ok (.ireturn, 1) := dOf oX9_made_0 11 rfl
theorem dX9_made_22 : decode cX9_made 22 = .ok (.aload_n 0, 1) := dOf oX9_made_0 12 rfl
theorem dX9_made_23 : decode cX9_made 23 = .ok (.getfield 18, 3) := dOf oX9_made_0 13 rfl
theorem dX9_made_26 : decode cX9_made 26 = .ok (.invokevirtual 102, 3) := dOf oX9_made_0 14 rfl
theorem dX9_made_29 : decode cX9_made 29 = .ok (.aload_n 0, 1) := dOf oX9_made_0 15 rfl
theorem dX9_made_30 : decode cX9_made 30 = .ok (.getfield 23, 3) := dOf oX9_made_0 16 rfl
theorem dX9_made_33 : decode cX9_made 33 = .ok (.iload_n 1, 1) := dOf oX9_made_0 17 rfl
theorem dX9_made_34 : decode cX9_made 34 = .ok (.aaload, 1) := dOf oX9_made_0 18 rfl
theorem dX9_made_35 : decode cX9_made 35 = .ok (.iload_n 2, 1) := dOf oX9_made_0 19 rfl
theorem dX9_made_36 : decode cX9_made 36 = .ok (.aload_n 0, 1) := dOf oX9_made_0 20 rfl
theorem dX9_made_37 : decode cX9_made 37 = .ok (.getfield 18, 3) := dOf oX9_made_0 21 rfl
theorem dX9_made_40 : decode cX9_made 40 = .ok (.invokevirtual 137, 3) := dOf oX9_made_0 22 rfl
theorem dX9_made_43 : decode cX9_made 43 = .ok (.ifCond .eq 14, 3) := dOf oX9_made_0 23 rfl
theorem dX9_made_46 : decode cX9_made 46 = .ok (.aload_n 0, 1) := dOf oX9_made_0 24 rfl
theorem dX9_made_47 : decode cX9_made 47 = .ok (.getfield 18, 3) := dOf oX9_made_0 25 rfl
theorem dX9_made_50 : decode cX9_made 50 = .ok (.iload_n 3, 1) := dOf oX9_made_0 26 rfl
theorem dX9_made_51 : decode cX9_made 51 = .ok (.invokevirtual 128, 3) := dOf oX9_made_0 27 rfl
theorem dX9_made_54 : decode cX9_made 54 = .ok (.goto 5, 3) := dOf oX9_made_0 28 rfl
theorem dX9_made_57 : decode cX9_made 57 = .ok (.bipush (-4), 2) := dOf oX9_made_0 29 rfl
theorem dX9_made_59 : decode cX9_made 59 = .ok (.ireturn, 1) := dOf oX9_made_0 30 rfl
def eX9_show_0 : List (Nat × Instr × Nat) := [(0, .aload_n 0, 1), (1, .iload_n 1, 1), (2, .invokevirtual 122, 3), (5, .ifCond .ne 5, 3), (8, .iconst (-1), 1), (9, .ireturn, 1), (10, .aload_n 0, 1), (11, .aload_n 0, 1), (12, .getfield 23, 3), (15, .iload_n 1, 1), (16, .aaload, 1), (17, .invokevirtual 141, 3), (20, .istore_n 2, 1), (21, .aload_n 0, 1), (22, .getfield 14, 3), (25, .invokevirtual 102, 3), (28, .iload_n 2, 1), (29, .ireturn, 1)]
theorem oX9_show_0 : okC cX9_show eX9_show_0 = true := by decide +kernel
theorem dX9_show_0 : decode cX9_show 0 = .ok (.aload_n 0, 1) := dOf oX9_show_0 0 rfl
theorem dX9_show_1 : decode cX9_show 1 = .ok (.iload_n 1, 1) := dOf oX9_show_0 1 rfl
theorem dX9_show_2 : decode cX9_show 2 = .ok (.invokevirtual 122, 3) := dOf oX9_show_0 2 rfl
theorem dX9_show_5 : decode cX9_show 5 = .ok (.ifCond .ne 5, 3) := dOf oX9_show_0 3 rfl
theorem dX9_show_8 : decode cX9_show 8 = .ok (.iconst (-1), 1) := dOf oX9_show_0 4 rfl
theorem dX9_show_9 : decode cX9_show 9 = .ok (.ireturn, 1) := dOf oX9_show_0 5 rfl
theorem dX9_show_10 : decode cX9_show 10 = .ok (.aload_n 0, 1) := dOf oX9_show_0 6 rfl
theorem dX9_show_11 : decode cX9_show 11 = .ok (.aload_n 0, 1) := dOf oX9_show_0 7 rfl
theorem dX9_show_12 : decode cX9_show 12 = .ok (.getfield 23, 3) := dOf oX9_show_0 8 rfl
theorem dX9_show_15 : decode cX9_show 15 = .ok (.iload_n 1, 1) := dOf oX9_show_0 9 rfl
theorem dX9_show_16 : decode cX9_show 16 = .ok (.aaload, 1) := dOf oX9_show_0 10 rfl
theorem dX9_show_17 : decode cX9_show 17 = .ok (.invokevirtual 141, 3) := dOf oX9_show_0 11 rfl
theorem dX9_show_20 : decode cX9_show 20 = .ok (.istore_n 2, 1) := dOf oX9_show_0 12 rfl
theorem dX9_show_21 : decode cX9_show 21 = .ok (.aload_n 0, 1) := dOf oX9_show_0 13 rfl
theorem dX9_show_22 : decode cX9_show 22 = .ok (.getfield 14, 3) := dOf oX9_show_0 14 rfl
theorem dX9_show_25 : decode cX9_show 25 = .ok (.invokevirtual 102, 3) := dOf oX9_show_0 15 rfl
theorem dX9_show_28 : decode cX9_show 28 = .ok (.iload_n 2, 1) := dOf oX9_show_0 16 rfl
theorem dX9_show_29 : decode cX9_show 29 = .ok (.ireturn, 1) := dOf oX9_show_0 17 rfl
def eX9_forget_0 : List (Nat × Instr × Nat) := [(0, .aload_n 0, 1), (1, .iload_n 1, 1), (2, .invokevirtual 122, 3), (5, .ifCond .ne 5, 3), (8, .iconst (-1), 1), (9, .ireturn, 1), (10, .aload_n 0, 1), (11, .getfield 23, 3), (14, .iload_n 1, 1), (15, .aaload, 1), (16, .getfield 145, 3), (19, .iconst 1, 1), (20, .if_icmp .eq 6, 3), (23, .bipush (-2), 2), (25, .ireturn, 1), (26, .aload_n 0, 1), (27, .getfield 23, 3), (30, .iload_n 1, 1), (31, .aaload, 1), (32, .iconst 0, 1), (33, .putfield 145, 3), (36, .aload_n 0, 1), (37, .invokevirtual 148, 3), (40, .aload_n 0, 1), (41, .iconst 1, 1), (42, .invokevirtual 151, 3), (45, .ireturn, 1)]
theorem oX9_forget_0 : okC cX9_forget eX9_forget_0 = true := by decide +kernel
theorem dX9_forget_0 : decode cX9_forget 0 = .ok (.aload_n 0, 1) := dOf oX9_forget_0 0 rfl
theorem dX9_forget_1 : decode cX9_forget 1 = .ok (.iload_n 1, 1) := dOf oX9_forget_0 1 rfl
theorem dX9_forget_2 : decode cX9_forget 2 = .ok (.invokevirtual 122, 3) := dOf oX9_forget_0 2 rfl
theorem dX9_forget_5 : decode cX9_forget 5 = .ok (.ifCond .ne 5, 3) := dOf oX9_forget_0 3 rfl
theorem dX9_forget_8 : decode cX9_forget 8 = .ok (.iconst (-1), 1) := dOf oX9_forget_0 4 rfl
theorem dX9_forget_9 : decode cX9_forget 9 = .ok (.ireturn, 1) := dOf oX9_forget_0 5 rfl
theorem dX9_forget_10 : decode cX9_forget 10 = .ok (.aload_n 0, 1) := dOf oX9_forget_0 6 rfl
theorem dX9_forget_11 : decode cX9_forget 11 = .ok (.getfield 23, 3) := dOf oX9_forget_0 7 rfl
theorem dX9_forget_14 : decode cX9_forget 14 = .ok (.iload_n 1, 1) := dOf oX9_forget_0 8 rfl
theorem dX9_forget_15 : decode cX9_forget 15 = .ok (.aaload, 1) := dOf oX9_forget_0 9 rfl
theorem dX9_forget_16 : decode cX9_forget 16 = .ok (.getfield 145, 3) := dOf oX9_forget_0 10 rfl
theorem dX9_forget_19 : decode cX9_forget 19 = .ok (.iconst 1, 1) := dOf oX9_forget_0 11 rfl
theorem dX9_forget_20 : decode cX9_forget 20 = .ok (.if_icmp .eq 6, 3) := dOf oX9_forget_0 12 rfl
theorem dX9_forget_23 : decode cX9_forget 23 = .ok (.bipush (-2), 2) := dOf oX9_forget_0 13 rfl
theorem dX9_forget_25 : decode cX9_forget 25 = .ok (.ireturn, 1) := dOf oX9_forget_0 14 rfl
theorem dX9_forget_26 : decode cX9_forget 26 = .ok (.aload_n 0, 1) := dOf oX9_forget_0 15 rfl
theorem dX9_forget_27 : decode cX9_forget 27 = .ok (.getfield 23, 3) := dOf oX9_forget_0 16 rfl
theorem dX9_forget_30 : decode cX9_forget 30 = .ok (.iload_n 1, 1) := dOf oX9_forget_0 17 rfl
theorem dX9_forget_31 : decode cX9_forget 31 = .ok (.aaload, 1) := dOf oX9_forget_0 18 rfl
theorem dX9_forget_32 : decode cX9_forget 32 = .ok (.iconst 0, 1) := dOf oX9_forget_0 19 rfl
theorem dX9_forget_33 : decode cX9_forget 33 = .ok (.putfield 145, 3) := dOf oX9_forget_0 20 rfl
theorem dX9_forget_36 : decode cX9_forget 36 = .ok (.aload_n 0, 1) := dOf oX9_forget_0 21 rfl
theorem dX9_forget_37 : decode cX9_forget 37 = .ok (.invokevirtual 148, 3) := dOf oX9_forget_0 22 rfl
theorem dX9_forget_40 : decode cX9_forget 40 = .ok (.aload_n 0, 1) := dOf oX9_forget_0 23 rfl
theorem dX9_forget_41 : decode cX9_forget 41 = .ok (.iconst 1, 1) := dOf oX9_forget_0 24 rfl
theorem dX9_forget_42 : decode cX9_forget 42 = .ok (.invokevirtual 151, 3) := dOf oX9_forget_0 25 rfl
theorem dX9_forget_45 : decode cX9_forget 45 = .ok (.ireturn, 1) := dOf oX9_forget_0 26 rfl
def eX9_fitting_0 : List (Nat × Instr × Nat) := [(0, .iload_n 1, 1), (1, .ifCond .lt 8, 3), (4, .iload_n 1, 1), (5, .iconst 3, 1), (6, .if_icmp .le 7, 3), (9, .ldc2_w 154, 3), (12, .lreturn, 1), (13, .aload_n 0, 1), (14, .invokevirtual 156, 3), (17, .bipush (-2), 2), (19, .if_icmp .ne 7, 3), (22, .ldc2_w 160, 3), (25, .lreturn, 1), (26, .aload_n 0, 1), (27, .getfield 34, 3), (30, .iload_n 1, 1), (31, .invokevirtual 162, 3), (34, .i2l, 1), (35, .lreturn, 1)]
theorem oX9_fitting_0 : okC cX9_fitting eX9_fitting_0 = true := by decide +kernel
theorem dX9_fitting_0 : decode cX9_fitting 0 = .ok (.iload_n 1, 1) := dOf oX9_fitting_0 0 rfl
theorem dX9_fitting_1 : decode cX9_fitting 1 = .ok (.ifCond .lt 8, 3) := dOf oX9_fitting_0 1 rfl
theorem dX9_fitting_4 : decode cX9_fitting 4 = .ok (.iload_n 1, 1) := dOf oX9_fitting_0 2 rfl
theorem dX9_fitting_5 : decode cX9_fitting 5 = .ok (.iconst 3, 1) := dOf oX9_fitting_0 3 rfl
theorem dX9_fitting_6 : decode cX9_fitting 6 = .ok (.if_icmp .le 7, 3) := dOf oX9_fitting_0 4 rfl
theorem dX9_fitting_9 : decode cX9_fitting 9 = .ok (.ldc2_w 154, 3) := dOf oX9_fitting_0 5 rfl
theorem dX9_fitting_12 : decode cX9_fitting 12 = .ok (.lreturn, 1) := dOf oX9_fitting_0 6 rfl
theorem dX9_fitting_13 : decode cX9_fitting 13 = .ok (.aload_n 0, 1) := dOf oX9_fitting_0 7 rfl
theorem dX9_fitting_14 : decode cX9_fitting 14 = .ok (.invokevirtual 156, 3) := dOf oX9_fitting_0 8 rfl
theorem dX9_fitting_17 : decode cX9_fitting 17 = .ok (.bipush (-2), 2) := dOf oX9_fitting_0 9 rfl
theorem dX9_fitting_19 : decode cX9_fitting 19 = .ok (.if_icmp .ne 7, 3) := dOf oX9_fitting_0 10 rfl
theorem dX9_fitting_22 : decode cX9_fitting 22 = .ok (.ldc2_w 160, 3) := dOf oX9_fitting_0 11 rfl
theorem dX9_fitting_25 : decode cX9_fitting 25 = .ok (.lreturn, 1) := dOf oX9_fitting_0 12 rfl
theorem dX9_fitting_26 : decode cX9_fitting 26 = .ok (.aload_n 0, 1) := dOf oX9_fitting_0 13 rfl
theorem dX9_fitting_27 : decode cX9_fitting 27 = .ok (.getfield 34, 3) := dOf oX9_fitting_0 14 rfl
theorem dX9_fitting_30 : decode cX9_fitting 30 = .ok (.iload_n 1, 1) := dOf oX9_fitting_0 15 rfl
theorem dX9_fitting_31 : decode cX9_fitting 31 = .ok (.invokevirtual 162, 3) := dOf oX9_fitting_0 16 rfl
theorem dX9_fitting_34 : decode cX9_fitting 34 = .ok (.i2l, 1) := dOf oX9_fitting_0 17 rfl
theorem dX9_fitting_35 : decode cX9_fitting 35 = .ok (.lreturn, 1) := dOf oX9_fitting_0 18 rfl
def eX9_shortest_0 : List (Nat × Instr × Nat) := [(0, .iload_n 1, 1), (1, .ifCond .lt 8, 3), (4, .iload_n 1, 1), (5, .iconst 4, 1), (6, .if_icmp .le 5, 3), (9, .iconst (-1), 1), (10, .ireturn, 1), (11, .aload_n 0, 1), (12, .invokevirtual 156, 3), (15, .istore_n 2, 1), (16, .iload_n 2, 1), (17, .ifCond .eq 7, 3), (20, .iload_n 2, 1), (21, .goto 16, 3), (24, .aload_n 0, 1), (25, .getfield 34, 3), (28, .getfield 163, 3), (31, .iconst 0, 1), (32, .aaload, 1), (33, .iload_n 1, 1), (34, .invokevirtual 166, 3), (37, .ireturn, 1)]
theorem oX9_shortest_0 : okC cX9_shortest eX9_shortest_0 = true := by decide +kernel
theorem dX9_shortest_0 : decode cX9_shortest 0 = .ok (.iload_n 1, 1) := dOf oX9_shortest_0 0 rfl
theorem dX9_shortest_1 : decode cX9_shortest 1 = .ok (.ifCond .lt 8, 3) := dOf oX9_shortest_0 1 rfl
theorem dX9_shortest_4 : decode cX9_shortest 4 = .ok (.iload_n 1, 1) := dOf oX9_shortest_0 2 rfl
theorem dX9_shortest_5 : decode cX9_shortest 5 = .ok (.iconst 4, 1) := dOf oX9_shortest_0 3 rfl
theorem dX9_shortest_6 : decode cX9_shortest 6 = .ok (.if_icmp .le 5, 3) := dOf oX9_shortest_0 4 rfl
theorem dX9_shortest_9 : decode cX9_shortest 9 = .ok (.iconst (-1), 1) := dOf oX9_shortest_0 5 rfl
theorem dX9_shortest_10 : decode cX9_shortest 10 = .ok (.ireturn, 1) := dOf oX9_shortest_0 6 rfl
theorem dX9_shortest_11 : decode cX9_shortest 11 = .ok (.aload_n 0, 1) := dOf oX9_shortest_0 7 rfl
theorem dX9_shortest_12 : decode cX9_shortest 12 = .ok (.invokevirtual 156, 3) := dOf oX9_shortest_0 8 rfl
theorem dX9_shortest_15 : decode cX9_shortest 15 = .ok (.istore_n 2, 1) := dOf oX9_shortest_0 9 rfl
theorem dX9_shortest_16 : decode cX9_shortest 16 = .ok (.iload_n 2, 1) := dOf oX9_shortest_0 10 rfl
theorem dX9_shortest_17 : decode cX9_shortest 17 = .ok (.ifCond .eq 7, 3) := dOf oX9_shortest_0 11 rfl
theorem dX9_shortest_20 : decode cX9_shortest 20 = .ok (.iload_n 2, 1) := dOf oX9_shortest_0 12 rfl
theorem dX9_shortest_21 : decode cX9_shortest 21 = .ok (.goto 16, 3) := dOf oX9_shortest_0 13 rfl
theorem dX9_shortest_24 : decode cX9_shortest 24 = .ok (.aload_n 0, 1) := dOf oX9_shortest_0 14 rfl
theorem dX9_shortest_25 : decode cX9_shortest 25 = .ok (.getfield 34, 3) := dOf oX9_shortest_0 15 rfl
theorem dX9_shortest_28 : decode cX9_shortest 28 = .ok (.getfield 163, 3) := dOf oX9_shortest_0 16 rfl
theorem dX9_shortest_31 : decode cX9_shortest 31 = .ok (.iconst 0, 1) := dOf oX9_shortest_0 17 rfl
theorem dX9_shortest_32 : decode cX9_shortest 32 = .ok (.aaload, 1) := dOf oX9_shortest_0 18 rfl
theorem dX9_shortest_33 : decode cX9_shortest 33 = .ok (.iload_n 1, 1) := dOf oX9_shortest_0 19 rfl
theorem dX9_shortest_34 : decode cX9_shortest 34 = .ok (.invokevirtual 166, 3) := dOf oX9_shortest_0 20 rfl
theorem dX9_shortest_37 : decode cX9_shortest 37 = .ok (.ireturn, 1) := dOf oX9_shortest_0 21 rfl
def eX9_paper_0 : List (Nat × Instr × Nat) := [(0, .aload_n 0, 1), (1, .iload_n 1, 1), (2, .invokevirtual 122, 3), (5, .ifCond .eq 8, 3), (8, .iload_n 2, 1), (9, .iconst (-1), 1), (10, .if_icmp .ge 5, 3), (13, .iconst (-1), 1), (14, .ireturn, 1), (15, .aload_n 0, 1), (16, .invokevirtual 156, 3), (19, .istore_n 3, 1), (20, .iload_n 3, 1), (21, .ifCond .eq 5, 3), (24, .iload_n 3, 1), (25, .ireturn, 1), (26, .aload_n 0, 1), (27, .getfield 34, 3), (30, .getfield 163, 3), (33, .iconst 0, 1), (34, .aaload, 1), (35, .aload_n 0, 1), (36, .getfield 23, 3), (39, .iload_n 1, 1), (40, .aaload, 1), (41, .aload_n 0, 1), (42, .getfield 18, 3), (45, .invokevirtual 167, 3), (48, .ifCond .eq 14, 3), (51, .aload_n 0, 1), (52, .getfield 18, 3), (55, .iload_n 2, 1), (56, .invokevirtual 128, 3), (59, .goto 5, 3), (62, .bipush (-4), 2), (64, .ireturn, 1)]
theorem oX9_paper_0 : okC cX9_paper eX9_paper_0 = true := by decide +kernel
theorem dX9_paper_0 : decode cX9_paper 0 = .ok (.aload_n 0, 1) := dOf oX9_paper_0 0 rfl
theorem dX9_paper_1 : decode cX9_paper 1 = .ok (.iload_n 1, 1) := dOf oX9_paper_0 1 rfl
theorem dX9_paper_2 : decode cX9_paper 2 = .ok (.invokevirtual 122, 3) := dOf oX9_paper_0 2 rfl
theorem dX9_paper_5 : decode cX9_paper 5 = .ok (.ifCond .eq 8, 3) := dOf oX9_paper_0 3 rfl
theorem dX9_paper_8 : decode cX9_paper 8 = .ok (.iload_n 2, 1) := dOf oX9_paper_0 4 rfl
theorem dX9_paper_9 : decode cX9_paper 9 = .ok (.iconst (-1), 1) := dOf oX9_paper_0 5 rfl
theorem dX9_paper_10 : decode cX9_paper 10 = .ok (.if_icmp .ge 5, 3) := dOf oX9_paper_0 6 rfl
theorem dX9_paper_13 : decode cX9_paper 13 = .ok (.iconst (-1), 1) := dOf oX9_paper_0 7 rfl
theorem dX9_paper_14 : decode cX9_paper 14 = .ok (.ireturn, 1) := dOf oX9_paper_0 8 rfl
theorem dX9_paper_15 : decode cX9_paper 15 = .ok (.aload_n 0, 1) := dOf oX9_paper_0 9 rfl
theorem dX9_paper_16 : decode cX9_paper 16 = .ok (.invokevirtual 156, 3) := dOf oX9_paper_0 10 rfl
theorem dX9_paper_19 : decode cX9_paper 19 = .ok (.istore_n 3, 1) := dOf oX9_paper_0 11 rfl
theorem dX9_paper_20 : decode cX9_paper 20 = .ok (.iload_n 3, 1) := dOf oX9_paper_0 12 rfl
theorem dX9_paper_21 : decode cX9_paper 21 = .ok (.ifCond .eq 5, 3) := dOf oX9_paper_0 13 rfl
theorem dX9_paper_24 : decode cX9_paper 24 = .ok (.iload_n 3, 1) := dOf oX9_paper_0 14 rfl
theorem dX9_paper_25 : decode cX9_paper 25 = .ok (.ireturn, 1) := dOf oX9_paper_0 15 rfl
theorem dX9_paper_26 : decode cX9_paper 26 = .ok (.aload_n 0, 1) := dOf oX9_paper_0 16 rfl
theorem dX9_paper_27 : decode cX9_paper 27 = .ok (.getfield 34, 3) := dOf oX9_paper_0 17 rfl
theorem dX9_paper_30 : decode cX9_paper 30 = .ok (.getfield 163, 3) := dOf oX9_paper_0 18 rfl
theorem dX9_paper_33 : decode cX9_paper 33 = .ok (.iconst 0, 1) := dOf oX9_paper_0 19 rfl
theorem dX9_paper_34 : decode cX9_paper 34 = .ok (.aaload, 1) := dOf oX9_paper_0 20 rfl
theorem dX9_paper_35 : decode cX9_paper 35 = .ok (.aload_n 0, 1) := dOf oX9_paper_0 21 rfl
theorem dX9_paper_36 : decode cX9_paper 36 = .ok (.getfield 23, 3) := dOf oX9_paper_0 22 rfl
theorem dX9_paper_39 : decode cX9_paper 39 = .ok (.iload_n 1, 1) := dOf oX9_paper_0 23 rfl
theorem dX9_paper_40 : decode cX9_paper 40 = .ok (.aaload, 1) := dOf oX9_paper_0 24 rfl
theorem dX9_paper_41 : decode cX9_paper 41 = .ok (.aload_n 0, 1) := dOf oX9_paper_0 25 rfl
theorem dX9_paper_42 : decode cX9_paper 42 = .ok (.getfield 18, 3) := dOf oX9_paper_0 26 rfl
theorem dX9_paper_45 : decode cX9_paper 45 = .ok (.invokevirtual 167, 3) := dOf oX9_paper_0 27 rfl
theorem dX9_paper_48 : decode cX9_paper 48 = .ok (.ifCond .eq 14, 3) := dOf oX9_paper_0 28 rfl
theorem dX9_paper_51 : decode cX9_paper 51 = .ok (.aload_n 0, 1) := dOf oX9_paper_0 29 rfl
theorem dX9_paper_52 : decode cX9_paper 52 = .ok (.getfield 18, 3) := dOf oX9_paper_0 30 rfl
theorem dX9_paper_55 : decode cX9_paper 55 = .ok (.iload_n 2, 1) := dOf oX9_paper_0 31 rfl
theorem dX9_paper_56 : decode cX9_paper 56 = .ok (.invokevirtual 128, 3) := dOf oX9_paper_0 32 rfl
theorem dX9_paper_59 : decode cX9_paper 59 = .ok (.goto 5, 3) := dOf oX9_paper_0 33 rfl
theorem dX9_paper_62 : decode cX9_paper 62 = .ok (.bipush (-4), 2) := dOf oX9_paper_0 34 rfl
theorem dX9_paper_64 : decode cX9_paper 64 = .ok (.ireturn, 1) := dOf oX9_paper_0 35 rfl
def eX9_differs_0 : List (Nat × Instr × Nat) := [(0, .aload_n 0, 1), (1, .iload_n 1, 1), (2, .invokevirtual 122, 3), (5, .ifCond .ne 5, 3), (8, .iconst (-1), 1), (9, .ireturn, 1), (10, .aload_n 0, 1), (11, .invokevirtual 156, 3), (14, .istore_n 2, 1), (15, .iload_n 2, 1), (16, .ifCond .eq 5, 3), (19, .iload_n 2, 1), (20, .ireturn, 1), (21, .aload_n 0, 1), (22, .getfield 48, 3), (25, .aload_n 0, 1), (26, .getfield 34, 3), (29, .aload_n 0, 1), (30, .getfield 23, 3), (33, .iload_n 1, 1), (34, .aaload, 1), (35, .invokevirtual 171, 3), (38, .aload_n 0, 1), (39, .getfield 48, 3), (42, .getfield 175, 3), (45, .ireturn, 1)]
theorem oX9_differs_0 : okC cX9_differs eX9_differs_0 = true := by decide +kernel
theorem dX9_differs_0 : decode cX9_differs 0 = .ok (.aload_n 0, 1) := dOf oX9_differs_0 0 rfl
theorem dX9_differs_1 : decode cX9_differs 1 = .ok (.iload_n 1, 1) := dOf oX9_differs_0 1 rfl
theorem dX9_differs_2 : decode cX9_differs 2 = .ok (.invokevirtual 122, 3) := dOf oX9_differs_0 2 rfl
theorem dX9_differs_5 : decode cX9_differs 5 = .ok (.ifCond .ne 5, 3) := dOf oX9_differs_0 3 rfl
theorem dX9_differs_8 : decode cX9_differs 8 = .ok (.iconst (-1), 1) := dOf oX9_differs_0 4 rfl
theorem dX9_differs_9 : decode cX9_differs 9 = .ok (.ireturn, 1) := dOf oX9_differs_0 5 rfl
theorem dX9_differs_10 : decode cX9_differs 10 = .ok (.aload_n 0, 1) := dOf oX9_differs_0 6 rfl
theorem dX9_differs_11 : decode cX9_differs 11 = .ok (.invokevirtual 156, 3) := dOf oX9_differs_0 7 rfl
theorem dX9_differs_14 : decode cX9_differs 14 = .ok (.istore_n 2, 1) := dOf oX9_differs_0 8 rfl
theorem dX9_differs_15 : decode cX9_differs 15 = .ok (.iload_n 2, 1) := dOf oX9_differs_0 9 rfl
theorem dX9_differs_16 : decode cX9_differs 16 = .ok (.ifCond .eq 5, 3) := dOf oX9_differs_0 10 rfl
theorem dX9_differs_19 : decode cX9_differs 19 = .ok (.iload_n 2, 1) := dOf oX9_differs_0 11 rfl
theorem dX9_differs_20 : decode cX9_differs 20 = .ok (.ireturn, 1) := dOf oX9_differs_0 12 rfl
theorem dX9_differs_21 : decode cX9_differs 21 = .ok (.aload_n 0, 1) := dOf oX9_differs_0 13 rfl
theorem dX9_differs_22 : decode cX9_differs 22 = .ok (.getfield 48, 3) := dOf oX9_differs_0 14 rfl
theorem dX9_differs_25 : decode cX9_differs 25 = .ok (.aload_n 0, 1) := dOf oX9_differs_0 15 rfl
theorem dX9_differs_26 : decode cX9_differs 26 = .ok (.getfield 34, 3) := dOf oX9_differs_0 16 rfl
theorem dX9_differs_29 : decode cX9_differs 29 = .ok (.aload_n 0, 1) := dOf oX9_differs_0 17 rfl
theorem dX9_differs_30 : decode cX9_differs 30 = .ok (.getfield 23, 3) := dOf oX9_differs_0 18 rfl
theorem dX9_differs_33 : decode cX9_differs 33 = .ok (.iload_n 1, 1) := dOf oX9_differs_0 19 rfl
theorem dX9_differs_34 : decode cX9_differs 34 = .ok (.aaload, 1) := dOf oX9_differs_0 20 rfl
theorem dX9_differs_35 : decode cX9_differs 35 = .ok (.invokevirtual 171, 3) := dOf oX9_differs_0 21 rfl
theorem dX9_differs_38 : decode cX9_differs 38 = .ok (.aload_n 0, 1) := dOf oX9_differs_0 22 rfl
theorem dX9_differs_39 : decode cX9_differs 39 = .ok (.getfield 48, 3) := dOf oX9_differs_0 23 rfl
theorem dX9_differs_42 : decode cX9_differs 42 = .ok (.getfield 175, 3) := dOf oX9_differs_0 24 rfl
theorem dX9_differs_45 : decode cX9_differs 45 = .ok (.ireturn, 1) := dOf oX9_differs_0 25 rfl
def eX9_settle_0 : List (Nat × Instr × Nat) := [(0, .aload_n 0, 1), (1, .invokevirtual 156, 3), (4, .istore_n 1, 1), (5, .iload_n 1, 1), (6, .ifCond .eq 5, 3), (9, .iload_n 1, 1), (10, .ireturn, 1), (11, .bipush (-4), 2), (13, .istore_n 2, 1), (14, .iconst 0, 1), (15, .istore_n 3, 1), (16, .iconst 0, 1), (17, .istore 4, 2), (19, .iload 4, 2), (21, .aload_n 0, 1), (22, .getfield 27, 3), (25, .if_icmp .ge 71, 3), (28, .aload_n 0, 1), (29, .getfield 23, 3), (32, .iload 4, 2), (34, .aaload, 1), (35, .getfield 145, 3), (38, .iconst 1, 1), (39, .if_icmp .ne 6, 3), (42, .goto 48, 3), (45, .aload_n 0, 1), (46, .getfield 48, 3), (49, .aload_n 0, 1), (50, .getfield 34, 3), (53, .aload_n 0, 1), (54, .getfield 23, 3), (57, .iload 4, 2), (59, .aaload, 1), (60, .invokevirtual 171, 3), (63, .aload_n 0, 1), (64, .getfield 48, 3), (67, .invokevirtual 178, 3), (70, .istore 5, 2), (72, .iload_n 2, 1), (73, .bipush (-4), 2), (75, .if_icmp .eq 9, 3), (78, .iload 5, 2), (80, .iload_n 3, 1), (81, .if_icmp .ge 9, 3), (84, .iload 4, 2), (86, .istore_n 2, 1), (87, .iload 5, 2), (89, .istore_n 3, 1), (90, .iinc 4 1, 3), (93, .goto (-74), 3), (96, .iload_n 2, 1), (97, .ireturn, 1)]
theorem oX9_settle_0 : okC cX9_settle eX9_settle_0 = true := by decide +kernel
theorem dX9_settle_0 : decode cX9_settle 0 = .ok (.aload_n 0, 1) := dOf oX9_settle_0 0 rfl
theorem dX9_settle_1 : decode cX9_settle 1 = .ok (.invokevirtual 156, 3) := dOf oX9_settle_0 1 rfl
theorem dX9_settle_4 : decode cX9_settle 4 = .ok (.istore_n 1, 1) := dOf oX9_settle_0 2 rfl
theorem dX9_settle_5 : decode cX9_settle 5 = .ok (.iload_n 1, 1) := dOf oX9_settle_0 3 rfl
theorem dX9_settle_6 : decode cX9_settle 6 = .ok (.ifCond .eq 5, 3) := dOf oX9_settle_0 4 rfl
theorem dX9_settle_9 : decode cX9_settle 9 = .ok (.iload_n 1, 1) := dOf oX9_settle_0 5 rfl
theorem dX9_settle_10 : decode cX9_settle 10 = .ok (.ireturn, 1) := dOf oX9_settle_0 6 rfl
theorem dX9_settle_11 : decode cX9_settle 11 = .ok (.bipush (-4), 2) := dOf oX9_settle_0 7 rfl
theorem dX9_settle_13 : decode cX9_settle 13 = .ok (.istore_n 2, 1) := dOf oX9_settle_0 8 rfl
theorem dX9_settle_14 : decode cX9_settle 14 = .ok (.iconst 0, 1) := dOf oX9_settle_0 9 rfl
theorem dX9_settle_15 : decode cX9_settle 15 = .ok (.istore_n 3, 1) := dOf oX9_settle_0 10 rfl
theorem dX9_settle_16 : decode cX9_settle 16 = .ok (.iconst 0, 1) := dOf oX9_settle_0 11 rfl
theorem dX9_settle_17 : decode cX9_settle 17 = .ok (.istore 4, 2) := dOf oX9_settle_0 12 rfl
theorem dX9_settle_19 : decode cX9_settle 19 = .ok (.iload 4, 2) := dOf oX9_settle_0 13 rfl
theorem dX9_settle_21 : decode cX9_settle 21 = .ok (.aload_n 0, 1) := dOf oX9_settle_0 14 rfl
theorem dX9_settle_22 : decode cX9_settle 22 = .ok (.getfield 27, 3) := dOf oX9_settle_0 15 rfl
theorem dX9_settle_25 : decode cX9_settle 25 = .ok (.if_icmp .ge 71, 3) := dOf oX9_settle_0 16 rfl
theorem dX9_settle_28 : decode cX9_settle 28 = .ok (.aload_n 0, 1) := dOf oX9_settle_0 17 rfl
theorem dX9_settle_29 : decode cX9_settle 29 = .ok (.getfield 23, 3) := dOf oX9_settle_0 18 rfl
theorem dX9_settle_32 : decode cX9_settle 32 = .ok (.iload 4, 2) := dOf oX9_settle_0 19 rfl
theorem dX9_settle_34 : decode cX9_settle 34 = .ok (.aaload, 1) := dOf oX9_settle_0 20 rfl
theorem dX9_settle_35 : decode cX9_settle 35 = .ok (.getfield 145, 3) := dOf oX9_settle_0 21 rfl
theorem dX9_settle_38 : decode cX9_settle 38 = .ok (.iconst 1, 1) := dOf oX9_settle_0 22 rfl
theorem dX9_settle_39 : decode cX9_settle 39 = .ok (.if_icmp .ne 6, 3) := dOf oX9_settle_0 23 rfl
theorem dX9_settle_42 : decode cX9_settle 42 = .ok (.goto 48, 3) := dOf oX9_settle_0 24 rfl
theorem dX9_settle_45 : decode cX9_settle 45 = .ok (.aload_n 0, 1) := dOf oX9_settle_0 25 rfl
theorem dX9_settle_46 : decode cX9_settle 46 = .ok (.getfield 48, 3) := dOf oX9_settle_0 26 rfl
theorem dX9_settle_49 : decode cX9_settle 49 = .ok (.aload_n 0, 1) := dOf oX9_settle_0 27 rfl
theorem dX9_settle_50 : decode cX9_settle 50 = .ok (.getfield 34, 3) := dOf oX9_settle_0 28 rfl
theorem dX9_settle_53 : decode cX9_settle 53 = .ok (.aload_n 0, 1) := dOf oX9_settle_0 29 rfl
theorem dX9_settle_54 : decode cX9_settle 54 = .ok (.getfield 23, 3) := dOf oX9_settle_0 30 rfl
theorem dX9_settle_57 : decode cX9_settle 57 = .ok (.iload 4, 2) := dOf oX9_settle_0 31 rfl
theorem dX9_settle_59 : decode cX9_settle 59 = .ok (.aaload, 1) := dOf oX9_settle_0 32 rfl
theorem dX9_settle_60 : decode cX9_settle 60 = .ok (.invokevirtual 171, 3) := dOf oX9_settle_0 33 rfl
theorem dX9_settle_63 : decode cX9_settle 63 = .ok (.aload_n 0, 1) := dOf oX9_settle_0 34 rfl
theorem dX9_settle_64 : decode cX9_settle 64 = .ok (.getfield 48, 3) := dOf oX9_settle_0 35 rfl
theorem dX9_settle_67 : decode cX9_settle 67 = .ok (.invokevirtual 178, 3) := dOf oX9_settle_0 36 rfl
theorem dX9_settle_70 : decode cX9_settle 70 = .ok (.istore 5, 2) := dOf oX9_settle_0 37 rfl
theorem dX9_settle_72 : decode cX9_settle 72 = .ok (.iload_n 2, 1) := dOf oX9_settle_0 38 rfl
theorem dX9_settle_73 : decode cX9_settle 73 = .ok (.bipush (-4), 2) := dOf oX9_settle_0 39 rfl
theorem dX9_settle_75 : decode cX9_settle 75 = .ok (.if_icmp .eq 9, 3) := dOf oX9_settle_0 40 rfl
theorem dX9_settle_78 : decode cX9_settle 78 = .ok (.iload 5, 2) := dOf oX9_settle_0 41 rfl
theorem dX9_settle_80 : decode cX9_settle 80 = .ok (.iload_n 3, 1) := dOf oX9_settle_0 42 rfl
theorem dX9_settle_81 : decode cX9_settle 81 = .ok (.if_icmp .ge 9, 3) := dOf oX9_settle_0 43 rfl
theorem dX9_settle_84 : decode cX9_settle 84 = .ok (.iload 4, 2) := dOf oX9_settle_0 44 rfl
theorem dX9_settle_86 : decode cX9_settle 86 = .ok (.istore_n 2, 1) := dOf oX9_settle_0 45 rfl
theorem dX9_settle_87 : decode cX9_settle 87 = .ok (.iload 5, 2) := dOf oX9_settle_0 46 rfl
theorem dX9_settle_89 : decode cX9_settle 89 = .ok (.istore_n 3, 1) := dOf oX9_settle_0 47 rfl
theorem dX9_settle_90 : decode cX9_settle 90 = .ok (.iinc 4 1, 3) := dOf oX9_settle_0 48 rfl
theorem dX9_settle_93 : decode cX9_settle 93 = .ok (.goto (-74), 3) := dOf oX9_settle_0 49 rfl
theorem dX9_settle_96 : decode cX9_settle 96 = .ok (.iload_n 2, 1) := dOf oX9_settle_0 50 rfl
theorem dX9_settle_97 : decode cX9_settle 97 = .ok (.ireturn, 1) := dOf oX9_settle_0 51 rfl
def eX9_odd_0 : List (Nat × Instr × Nat) := [(0, .aload_n 0, 1), (1, .iload_n 1, 1), (2, .invokevirtual 122, 3), (5, .ifCond .ne 5, 3), (8, .iconst (-1), 1), (9, .ireturn, 1), (10, .aload_n 0, 1), (11, .invokevirtual 156, 3), (14, .istore_n 2, 1), (15, .iload_n 2, 1), (16, .ifCond .eq 5, 3), (19, .iload_n 2, 1), (20, .ireturn, 1), (21, .aload_n 0, 1), (22, .aload_n 0, 1), (23, .getfield 23, 3), (26, .iload_n 1, 1), (27, .aaload, 1), (28, .invokevirtual 181, 3), (31, .ifCond .eq 7, 3), (34, .iconst 1, 1), (35, .goto 4, 3), (38, .iconst 0, 1), (39, .ireturn, 1)]
theorem oX9_odd_0 : okC cX9_odd eX9_odd_0 = true := by decide +kernel
theorem dX9_odd_0 : decode cX9_odd 0 = .ok (.aload_n 0, 1) := dOf oX9_odd_0 0 rfl
theorem dX9_odd_1 : decode cX9_odd 1 = .ok (.iload_n 1, 1) := dOf oX9_odd_0 1 rfl
theorem dX9_odd_2 : decode cX9_odd 2 = .ok (.invokevirtual 122, 3) := dOf oX9_odd_0 2 rfl
theorem dX9_odd_5 : decode cX9_odd 5 = .ok (.ifCond .ne 5, 3) := dOf oX9_odd_0 3 rfl
theorem dX9_odd_8 : decode cX9_odd 8 = .ok (.iconst (-1), 1) := dOf oX9_odd_0 4 rfl
theorem dX9_odd_9 : decode cX9_odd 9 = .ok (.ireturn, 1) := dOf oX9_odd_0 5 rfl
theorem dX9_odd_10 : decode cX9_odd 10 = .ok (.aload_n 0, 1) := dOf oX9_odd_0 6 rfl
theorem dX9_odd_11 : decode cX9_odd 11 = .ok (.invokevirtual 156, 3) := dOf oX9_odd_0 7 rfl
theorem dX9_odd_14 : decode cX9_odd 14 = .ok (.istore_n 2, 1) := dOf oX9_odd_0 8 rfl
theorem dX9_odd_15 : decode cX9_odd 15 = .ok (.iload_n 2, 1) := dOf oX9_odd_0 9 rfl
theorem dX9_odd_16 : decode cX9_odd 16 = .ok (.ifCond .eq 5, 3) := dOf oX9_odd_0 10 rfl
theorem dX9_odd_19 : decode cX9_odd 19 = .ok (.iload_n 2, 1) := dOf oX9_odd_0 11 rfl
theorem dX9_odd_20 : decode cX9_odd 20 = .ok (.ireturn, 1) := dOf oX9_odd_0 12 rfl
theorem dX9_odd_21 : decode cX9_odd 21 = .ok (.aload_n 0, 1) := dOf oX9_odd_0 13 rfl
theorem dX9_odd_22 : decode cX9_odd 22 = .ok (.aload_n 0, 1) := dOf oX9_odd_0 14 rfl
theorem dX9_odd_23 : decode cX9_odd 23 = .ok (.getfield 23, 3) := dOf oX9_odd_0 15 rfl
theorem dX9_odd_26 : decode cX9_odd 26 = .ok (.iload_n 1, 1) := dOf oX9_odd_0 16 rfl
theorem dX9_odd_27 : decode cX9_odd 27 = .ok (.aaload, 1) := dOf oX9_odd_0 17 rfl
theorem dX9_odd_28 : decode cX9_odd 28 = .ok (.invokevirtual 181, 3) := dOf oX9_odd_0 18 rfl
theorem dX9_odd_31 : decode cX9_odd 31 = .ok (.ifCond .eq 7, 3) := dOf oX9_odd_0 19 rfl
theorem dX9_odd_34 : decode cX9_odd 34 = .ok (.iconst 1, 1) := dOf oX9_odd_0 20 rfl
theorem dX9_odd_35 : decode cX9_odd 35 = .ok (.goto 4, 3) := dOf oX9_odd_0 21 rfl
theorem dX9_odd_38 : decode cX9_odd 38 = .ok (.iconst 0, 1) := dOf oX9_odd_0 22 rfl
theorem dX9_odd_39 : decode cX9_odd 39 = .ok (.ireturn, 1) := dOf oX9_odd_0 23 rfl
def eX9_slips_0 : List (Nat × Instr × Nat) := [(0, .aload_n 0, 1), (1, .invokevirtual 156, 3), (4, .istore_n 1, 1), (5, .iload_n 1, 1), (6, .bipush (-2), 2), (8, .if_icmp .ne 6, 3), (11, .bipush (-2), 2), (13, .ireturn, 1), (14, .iload_n 1, 1), (15, .ifCond .ne 5, 3), (18, .iconst 0, 1), (19, .ireturn, 1), (20, .aload_n 0, 1), (21, .getfield 42, 3), (24, .iconst (-1), 1), (25, .if_icmp .ne 11, 3), (28, .aload_n 0, 1), (29, .aload_n 0, 1), (30, .invokevirtual 185, 3), (33, .putfield 42, 3), (36, .aload_n 0, 1), (37, .getfield 42, 3), (40, .ireturn, 1)]
theorem oX9_slips_0 : okC cX9_slips eX9_slips_0 = true := by decide +kernel
theorem dX9_slips_0 : decode cX9_slips 0 = .ok (.aload_n 0, 1) := dOf oX9_slips_0 0 rfl
theorem dX9_slips_1 : decode cX9_slips 1 = .ok (.invokevirtual 156, 3) := dOf oX9_slips_0 1 rfl
theorem dX9_slips_4 : decode cX9_slips 4 = .ok (.istore_n 1, 1) := dOf oX9_slips_0 2 rfl
theorem dX9_slips_5 : decode cX9_slips 5 = .ok (.iload_n 1, 1) := dOf oX9_slips_0 3 rfl
theorem dX9_slips_6 : decode cX9_slips 6 = .ok (.bipush (-2), 2) := dOf oX9_slips_0 4 rfl
theorem dX9_slips_8 : decode cX9_slips 8 = .ok (.if_icmp .ne 6, 3) := dOf oX9_slips_0 5 rfl
theorem dX9_slips_11 : decode cX9_slips 11 = .ok (.bipush (-2), 2) := dOf oX9_slips_0 6 rfl
theorem dX9_slips_13 : decode cX9_slips 13 = .ok (.ireturn, 1) := dOf oX9_slips_0 7 rfl
theorem dX9_slips_14 : decode cX9_slips 14 = .ok (.iload_n 1, 1) := dOf oX9_slips_0 8 rfl
theorem dX9_slips_15 : decode cX9_slips 15 = .ok (.ifCond .ne 5, 3) := dOf oX9_slips_0 9 rfl
theorem dX9_slips_18 : decode cX9_slips 18 = .ok (.iconst 0, 1) := dOf oX9_slips_0 10 rfl
theorem dX9_slips_19 : decode cX9_slips 19 = .ok (.ireturn, 1) := dOf oX9_slips_0 11 rfl
theorem dX9_slips_20 : decode cX9_slips 20 = .ok (.aload_n 0, 1) := dOf oX9_slips_0 12 rfl
theorem dX9_slips_21 : decode cX9_slips 21 = .ok (.getfield 42, 3) := dOf oX9_slips_0 13 rfl
theorem dX9_slips_24 : decode cX9_slips 24 = .ok (.iconst (-1), 1) := dOf oX9_slips_0 14 rfl
theorem dX9_slips_25 : decode cX9_slips 25 = .ok (.if_icmp .ne 11, 3) := dOf oX9_slips_0 15 rfl
theorem dX9_slips_28 : decode cX9_slips 28 = .ok (.aload_n 0, 1) := dOf oX9_slips_0 16 rfl
theorem dX9_slips_29 : decode cX9_slips 29 = .ok (.aload_n 0, 1) := dOf oX9_slips_0 17 rfl
theorem dX9_slips_30 : decode cX9_slips 30 = .ok (.invokevirtual 185, 3) := dOf oX9_slips_0 18 rfl
theorem dX9_slips_33 : decode cX9_slips 33 = .ok (.putfield 42, 3) := dOf oX9_slips_0 19 rfl
theorem dX9_slips_36 : decode cX9_slips 36 = .ok (.aload_n 0, 1) := dOf oX9_slips_0 20 rfl
theorem dX9_slips_37 : decode cX9_slips 37 = .ok (.getfield 42, 3) := dOf oX9_slips_0 21 rfl
theorem dX9_slips_40 : decode cX9_slips 40 = .ok (.ireturn, 1) := dOf oX9_slips_0 22 rfl
def eX9_state_0 : List (Nat × Instr × Nat) := [(0, .aload_n 0, 1), (1, .iload_n 1, 1), (2, .invokevirtual 122, 3), (5, .ifCond .eq 15, 3), (8, .aload_n 0, 1), (9, .getfield 23, 3), (12, .iload_n 1, 1), (13, .aaload, 1), (14, .getfield 145, 3), (17, .goto 4, 3), (20, .iconst (-1), 1), (21, .ireturn, 1)]
theorem oX9_state_0 : okC cX9_state eX9_state_0 = true := by decide +kernel
theorem dX9_state_0 : decode cX9_state 0 = .ok (.aload_n 0, 1) := dOf oX9_state_0 0 rfl
theorem dX9_state_1 : decode cX9_state 1 = .ok (.iload_n 1, 1) := dOf oX9_state_0 1 rfl
theorem dX9_state_2 : decode cX9_state 2 = .ok (.invokevirtual 122, 3) := dOf oX9_state_0 2 rfl
theorem dX9_state_5 : decode cX9_state 5 = .ok (.ifCond .eq 15, 3) := dOf oX9_state_0 3 rfl
theorem dX9_state_8 : decode cX9_state 8 = .ok (.aload_n 0, 1) := dOf oX9_state_0 4 rfl
theorem dX9_state_9 : decode cX9_state 9 = .ok (.getfield 23, 3) := dOf oX9_state_0 5 rfl
theorem dX9_state_12 : decode cX9_state 12 = .ok (.iload_n 1, 1) := dOf oX9_state_0 6 rfl
theorem dX9_state_13 : decode cX9_state 13 = .ok (.aaload, 1) := dOf oX9_state_0 7 rfl
theorem dX9_state_14 : decode cX9_state 14 = .ok (.getfield 145, 3) := dOf oX9_state_0 8 rfl
theorem dX9_state_17 : decode cX9_state 17 = .ok (.goto 4, 3) := dOf oX9_state_0 9 rfl
theorem dX9_state_20 : decode cX9_state 20 = .ok (.iconst (-1), 1) := dOf oX9_state_0 10 rfl
theorem dX9_state_21 : decode cX9_state 21 = .ok (.ireturn, 1) := dOf oX9_state_0 11 rfl
def eX9_doing_0 : List (Nat × Instr × Nat) := [(0, .iload_n 1, 1), (1, .iconst 1, 1), (2, .if_icmp .lt 9, 3), (5, .iload_n 1, 1), (6, .bipush 12, 2), (8, .if_icmp .le 5, 3), (11, .iconst (-1), 1), (12, .ireturn, 1), (13, .aload_n 0, 1), (14, .invokevirtual 156, 3), (17, .istore_n 2, 1), (18, .iload_n 2, 1), (19, .ifCond .eq 5, 3), (22, .iload_n 2, 1), (23, .ireturn, 1), (24, .iconst 0, 1), (25, .istore_n 3, 1), (26, .iconst 0, 1), (27, .istore 4, 2), (29, .iconst 0, 1), (30, .istore 5, 2), (32, .iload 5, 2), (34, .aload_n 0, 1), (35, .getfield 27, 3), (38, .if_icmp .ge 61, 3), (41, .iload_n 3, 1), (42, .invokestatic 188, 3), (45, .iload_n 1, 1), (46, .if_icmp .ge 53, 3), (49, .aload_n 0, 1), (50, .getfield 23, 3), (53, .iload 5, 2), (55, .aaload, 1), (56, .getfield 145, 3), (59, .ifCond .ne 34, 3), (62, .iload_n 3, 1), (63, .iconst 1, 1), (64, .iload 5, 2), (66, .ishl, 1), (67, .ior, 1), (68, .istore_n 3, 1), (69, .iload 4, 2), (71, .aload_n 0, 1), (72, .aload_n 0, 1), (73, .getfield 23, 3), (76, .iload 5, 2), (78, .aaload, 1), (79, .invokevirtual 193, 3), (82, .ifCond .eq 7, 3), (85, .iconst 1, 1), (86, .goto 4, 3), (89, .iconst 0, 1), (90, .iadd, 1), (91, .istore 4, 2), (93, .iinc 5 1, 3), (96, .goto (-64), 3), (99, .aload_n 0, 1), (100, .iload_n 3, 1), (101, .invokevirtual 196, 3), (104, .iload 4, 2)]
theorem oX9_doing_0 : okC cX9_doing eX9_doing_0 = true := by decide +kernel
theorem dX9_doing_0 : decode cX9_doing 0 = .ok (.iload_n 1, 1) := dOf oX9_doing_0 0 rfl
theorem dX9_doing_1 : decode cX9_doing 1 = .ok (.iconst 1, 1) := dOf oX9_doing_0 1 rfl
theorem dX9_doing_2 : decode cX9_doing 2 = .ok (.if_icmp .lt 9, 3) := dOf oX9_doing_0 2 rfl
theorem dX9_doing_5 : decode cX9_doing 5 = .ok (.iload_n 1, 1) := dOf oX9_doing_0 3 rfl
theorem dX9_doing_6 : decode cX9_doing 6 = .ok (.bipush 12, 2) := dOf oX9_doing_0 4 rfl
theorem dX9_doing_8 : decode cX9_doing 8 = .ok (.if_icmp .le 5, 3) := dOf oX9_doing_0 5 rfl
theorem dX9_doing_11 : decode cX9_doing 11 = .ok (.iconst (-1), 1) := dOf oX9_doing_0 6 rfl
theorem dX9_doing_12 : decode cX9_doing 12 = .ok (.ireturn, 1) := dOf oX9_doing_0 7 rfl
theorem dX9_doing_13 : decode cX9_doing 13 = .ok (.aload_n 0, 1) := dOf oX9_doing_0 8 rfl
theorem dX9_doing_14 : decode cX9_doing 14 = .ok (.invokevirtual 156, 3) := dOf oX9_doing_0 9 rfl
theorem dX9_doing_17 : decode cX9_doing 17 = .ok (.istore_n 2, 1) := dOf oX9_doing_0 10 rfl
theorem dX9_doing_18 : decode cX9_doing 18 = .ok (.iload_n 2, 1) := dOf oX9_doing_0 11 rfl
theorem dX9_doing_19 : decode cX9_doing 19 = .ok (.ifCond .eq 5, 3) := dOf oX9_doing_0 12 rfl
theorem dX9_doing_22 : decode cX9_doing 22 = .ok (.iload_n 2, 1) := dOf oX9_doing_0 13 rfl
theorem dX9_doing_23 : decode cX9_doing 23 = .ok (.ireturn, 1) := dOf oX9_doing_0 14 rfl
theorem dX9_doing_24 : decode cX9_doing 24 = .ok (.iconst 0, 1) := dOf oX9_doing_0 15 rfl
theorem dX9_doing_25 : decode cX9_doing 25 = .ok (.istore_n 3, 1) := dOf oX9_doing_0 16 rfl
theorem dX9_doing_26 : decode cX9_doing 26 = .ok (.iconst 0, 1) := dOf oX9_doing_0 17 rfl
theorem dX9_doing_27 : decode cX9_doing 27 = .ok (.istore 4, 2) := dOf oX9_doing_0 18 rfl
theorem dX9_doing_29 : decode cX9_doing 29 = .ok (.iconst 0, 1) := dOf oX9_doing_0 19 rfl
theorem dX9_doing_30 : decode cX9_doing 30 = .ok (.istore 5, 2) := dOf oX9_doing_0 20 rfl
theorem dX9_doing_32 : decode cX9_doing 32 = .ok (.iload 5, 2) := dOf oX9_doing_0 21 rfl
theorem dX9_doing_34 : decode cX9_doing 34 = .ok (.aload_n 0, 1) := dOf oX9_doing_0 22 rfl
theorem dX9_doing_35 : decode cX9_doing 35 = .ok (.getfield 27, 3) := dOf oX9_doing_0 23 rfl
theorem dX9_doing_38 : decode cX9_doing 38 = .ok (.if_icmp .ge 61, 3) := dOf oX9_doing_0 24 rfl
theorem dX9_doing_41 : decode cX9_doing 41 = .ok (.iload_n 3, 1) := dOf oX9_doing_0 25 rfl
theorem dX9_doing_42 : decode cX9_doing 42 = .ok (.invokestatic 188, 3) := dOf oX9_doing_0 26 rfl
theorem dX9_doing_45 : decode cX9_doing 45 = .ok (.iload_n 1, 1) := dOf oX9_doing_0 27 rfl
theorem dX9_doing_46 : decode cX9_doing 46 = .ok (.if_icmp .ge 53, 3) := dOf oX9_doing_0 28 rfl
theorem dX9_doing_49 : decode cX9_doing 49 = .ok (.aload_n 0, 1) := dOf oX9_doing_0 29 rfl
theorem dX9_doing_50 : decode cX9_doing 50 = .ok (.getfield 23, 3) := dOf oX9_doing_0 30 rfl
theorem dX9_doing_53 : decode cX9_doing 53 = .ok (.iload 5, 2) := dOf oX9_doing_0 31 rfl
theorem dX9_doing_55 : decode cX9_doing 55 = .ok (.aaload, 1) := dOf oX9_doing_0 32 rfl
theorem dX9_doing_56 : decode cX9_doing 56 = .ok (.getfield 145, 3) := dOf oX9_doing_0 33 rfl
theorem dX9_doing_59 : decode cX9_doing 59 = .ok (.ifCond .ne 34, 3) := dOf oX9_doing_0 34 rfl
theorem dX9_doing_62 : decode cX9_doing 62 = .ok (.iload_n 3, 1) := dOf oX9_doing_0 35 rfl
theorem dX9_doing_63 : decode cX9_doing 63 = .ok (.iconst 1, 1) := dOf oX9_doing_0 36 rfl
theorem dX9_doing_64 : decode cX9_doing 64 = .ok (.iload 5, 2) := dOf oX9_doing_0 37 rfl
theorem dX9_doing_66 : decode cX9_doing 66 = .ok (.ishl, 1) := dOf oX9_doing_0 38 rfl
theorem dX9_doing_67 : decode cX9_doing 67 = .ok (.ior, 1) := dOf oX9_doing_0 39 rfl
theorem dX9_doing_68 : decode cX9_doing 68 = .ok (.istore_n 3, 1) := dOf oX9_doing_0 40 rfl
theorem dX9_doing_69 : decode cX9_doing 69 = .ok (.iload 4, 2) := dOf oX9_doing_0 41 rfl
theorem dX9_doing_71 : decode cX9_doing 71 = .ok (.aload_n 0, 1) := dOf oX9_doing_0 42 rfl
theorem dX9_doing_72 : decode cX9_doing 72 = .ok (.aload_n 0, 1) := dOf oX9_doing_0 43 rfl
theorem dX9_doing_73 : decode cX9_doing 73 = .ok (.getfield 23, 3) := dOf oX9_doing_0 44 rfl
theorem dX9_doing_76 : decode cX9_doing 76 = .ok (.iload 5, 2) := dOf oX9_doing_0 45 rfl
theorem dX9_doing_78 : decode cX9_doing 78 = .ok (.aaload, 1) := dOf oX9_doing_0 46 rfl
theorem dX9_doing_79 : decode cX9_doing 79 = .ok (.invokevirtual 193, 3) := dOf oX9_doing_0 47 rfl
theorem dX9_doing_82 : decode cX9_doing 82 = .ok (.ifCond .eq 7, 3) := dOf oX9_doing_0 48 rfl
theorem dX9_doing_85 : decode cX9_doing 85 = .ok (.iconst 1, 1) := dOf oX9_doing_0 49 rfl
theorem dX9_doing_86 : decode cX9_doing 86 = .ok (.goto 4, 3) := dOf oX9_doing_0 50 rfl
theorem dX9_doing_89 : decode cX9_doing 89 = .ok (.iconst 0, 1) := dOf oX9_doing_0 51 rfl
theorem dX9_doing_90 : decode cX9_doing 90 = .ok (.iadd, 1) := dOf oX9_doing_0 52 rfl
theorem dX9_doing_91 : decode cX9_doing 91 = .ok (.istore 4, 2) := dOf oX9_doing_0 53 rfl
theorem dX9_doing_93 : decode cX9_doing 93 = .ok (.iinc 5 1, 3) := dOf oX9_doing_0 54 rfl
theorem dX9_doing_96 : decode cX9_doing 96 = .ok (.goto (-64), 3) := dOf oX9_doing_0 55 rfl
theorem dX9_doing_99 : decode cX9_doing 99 = .ok (.aload_n 0, 1) := dOf oX9_doing_0 56 rfl
theorem dX9_doing_100 : decode cX9_doing 100 = .ok (.iload_n 3, 1) := dOf oX9_doing_0 57 rfl
theorem dX9_doing_101 : decode cX9_doing 101 = .ok (.invokevirtual 196, 3) := dOf oX9_doing_0 58 rfl
theorem dX9_doing_104 : decode cX9_doing 104 = .ok (.iload 4, 2) := dOf oX9_doing_0 59 rfl
def eX9_doing_1 : List (Nat × Instr × Nat) := [(106, .ireturn, 1)]
theorem oX9_doing_1 : okC cX9_doing eX9_doing_1 = true := by decide +kernel
theorem dX9_doing_106 : decode cX9_doing 106 = .ok (.ireturn, 1) := dOf oX9_doing_1 0 rfl
def eX9_back_0 : List (Nat × Instr × Nat) := [(0, .aload_n 0, 1), (1, .getfield 56, 3), (4, .ifCond .ne 6, 3), (7, .bipush (-4), 2), (9, .ireturn, 1), (10, .aload_n 0, 1), (11, .dup, 1), (12, .getfield 56, 3), (15, .iconst 1, 1), (16, .isub, 1), (17, .putfield 56, 3), (20, .aload_n 0, 1), (21, .getfield 52, 3), (24, .aload_n 0, 1), (25, .getfield 56, 3), (28, .iaload, 1), (29, .istore_n 1, 1), (30, .iconst 0, 1), (31, .istore_n 2, 1), (32, .iconst 0, 1), (33, .istore_n 3, 1), (34, .iload_n 3, 1), (35, .aload_n 0, 1), (36, .getfield 27, 3), (39, .if_icmp .ge 53, 3), (42, .aload_n 0, 1), (43, .getfield 23, 3), (46, .iload_n 3, 1), (47, .aaload, 1), (48, .astore 4, 2), (50, .iload_n 1, 1), (51, .iload_n 3, 1), (52, .ishr, 1), (53, .iconst 1, 1), (54, .iand, 1), (55, .iconst 1, 1), (56, .if_icmp .ne 30, 3), (59, .aload 4, 2), (61, .getfield 145, 3), (64, .iconst 2, 1), (65, .if_icmp .eq 12, 3), (68, .aload 4, 2), (70, .getfield 145, 3), (73, .iconst 3, 1), (74, .if_icmp .ne 12, 3), (77, .aload 4, 2), (79, .iconst 0, 1), (80, .putfield 145, 3), (83, .iinc 2 1, 3), (86, .iinc 3 1, 3), (89, .goto (-55), 3), (92, .iload_n 2, 1), (93, .ireturn, 1)]
theorem oX9_back_0 : okC cX9_back eX9_back_0 = true := by decide +kernel
theorem dX9_back_0 : decode cX9_back 0 = .ok (.aload_n 0, 1) := dOf oX9_back_0 0 rfl
theorem dX9_back_1 : decode cX9_back 1 = .ok (.getfield 56, 3) := dOf oX9_back_0 1 rfl
theorem dX9_back_4 : decode cX9_back 4 = .ok (.ifCond .ne 6, 3) := dOf oX9_back_0 2 rfl
theorem dX9_back_7 : decode cX9_back 7 = .ok (.bipush (-4), 2) := dOf oX9_back_0 3 rfl
theorem dX9_back_9 : decode cX9_back 9 = .ok (.ireturn, 1) := dOf oX9_back_0 4 rfl
theorem dX9_back_10 : decode cX9_back 10 = .ok (.aload_n 0, 1) := dOf oX9_back_0 5 rfl
theorem dX9_back_11 : decode cX9_back 11 = .ok (.dup, 1) := dOf oX9_back_0 6 rfl
theorem dX9_back_12 : decode cX9_back 12 = .ok (.getfield 56, 3) := dOf oX9_back_0 7 rfl
theorem dX9_back_15 : decode cX9_back 15 = .ok (.iconst 1, 1) := dOf oX9_back_0 8 rfl
theorem dX9_back_16 : decode cX9_back 16 = .ok (.isub, 1) := dOf oX9_back_0 9 rfl
theorem dX9_back_17 : decode cX9_back 17 = .ok (.putfield 56, 3) := dOf oX9_back_0 10 rfl
theorem dX9_back_20 : decode cX9_back 20 = .ok (.aload_n 0, 1) := dOf oX9_back_0 11 rfl
theorem dX9_back_21 : decode cX9_back 21 = .ok (.getfield 52, 3) := dOf oX9_back_0 12 rfl
theorem dX9_back_24 : decode cX9_back 24 = .ok (.aload_n 0, 1) := dOf oX9_back_0 13 rfl
theorem dX9_back_25 : decode cX9_back 25 = .ok (.getfield 56, 3) := dOf oX9_back_0 14 rfl
theorem dX9_back_28 : decode cX9_back 28 = .ok (.iaload, 1) := dOf oX9_back_0 15 rfl
theorem dX9_back_29 : decode cX9_back 29 = .ok (.istore_n 1, 1) := dOf oX9_back_0 16 rfl
theorem dX9_back_30 : decode cX9_back 30 = .ok (.iconst 0, 1) := dOf oX9_back_0 17 rfl
theorem dX9_back_31 : decode cX9_back 31 = .ok (.istore_n 2, 1) := dOf oX9_back_0 18 rfl
theorem dX9_back_32 : decode cX9_back 32 = .ok (.iconst 0, 1) := dOf oX9_back_0 19 rfl
theorem dX9_back_33 : decode cX9_back 33 = .ok (.istore_n 3, 1) := dOf oX9_back_0 20 rfl
theorem dX9_back_34 : decode cX9_back 34 = .ok (.iload_n 3, 1) := dOf oX9_back_0 21 rfl
theorem dX9_back_35 : decode cX9_back 35 = .ok (.aload_n 0, 1) := dOf oX9_back_0 22 rfl
theorem dX9_back_36 : decode cX9_back 36 = .ok (.getfield 27, 3) := dOf oX9_back_0 23 rfl
theorem dX9_back_39 : decode cX9_back 39 = .ok (.if_icmp .ge 53, 3) := dOf oX9_back_0 24 rfl
theorem dX9_back_42 : decode cX9_back 42 = .ok (.aload_n 0, 1) := dOf oX9_back_0 25 rfl
theorem dX9_back_43 : decode cX9_back 43 = .ok (.getfield 23, 3) := dOf oX9_back_0 26 rfl
theorem dX9_back_46 : decode cX9_back 46 = .ok (.iload_n 3, 1) := dOf oX9_back_0 27 rfl
theorem dX9_back_47 : decode cX9_back 47 = .ok (.aaload, 1) := dOf oX9_back_0 28 rfl
theorem dX9_back_48 : decode cX9_back 48 = .ok (.astore 4, 2) := dOf oX9_back_0 29 rfl
theorem dX9_back_50 : decode cX9_back 50 = .ok (.iload_n 1, 1) := dOf oX9_back_0 30 rfl
theorem dX9_back_51 : decode cX9_back 51 = .ok (.iload_n 3, 1) := dOf oX9_back_0 31 rfl
theorem dX9_back_52 : decode cX9_back 52 = .ok (.ishr, 1) := dOf oX9_back_0 32 rfl
theorem dX9_back_53 : decode cX9_back 53 = .ok (.iconst 1, 1) := dOf oX9_back_0 33 rfl
theorem dX9_back_54 : decode cX9_back 54 = .ok (.iand, 1) := dOf oX9_back_0 34 rfl
theorem dX9_back_55 : decode cX9_back 55 = .ok (.iconst 1, 1) := dOf oX9_back_0 35 rfl
theorem dX9_back_56 : decode cX9_back 56 = .ok (.if_icmp .ne 30, 3) := dOf oX9_back_0 36 rfl
theorem dX9_back_59 : decode cX9_back 59 = .ok (.aload 4, 2) := dOf oX9_back_0 37 rfl
theorem dX9_back_61 : decode cX9_back 61 = .ok (.getfield 145, 3) := dOf oX9_back_0 38 rfl
theorem dX9_back_64 : decode cX9_back 64 = .ok (.iconst 2, 1) := dOf oX9_back_0 39 rfl
theorem dX9_back_65 : decode cX9_back 65 = .ok (.if_icmp .eq 12, 3) := dOf oX9_back_0 40 rfl
theorem dX9_back_68 : decode cX9_back 68 = .ok (.aload 4, 2) := dOf oX9_back_0 41 rfl
theorem dX9_back_70 : decode cX9_back 70 = .ok (.getfield 145, 3) := dOf oX9_back_0 42 rfl
theorem dX9_back_73 : decode cX9_back 73 = .ok (.iconst 3, 1) := dOf oX9_back_0 43 rfl
theorem dX9_back_74 : decode cX9_back 74 = .ok (.if_icmp .ne 12, 3) := dOf oX9_back_0 44 rfl
theorem dX9_back_77 : decode cX9_back 77 = .ok (.aload 4, 2) := dOf oX9_back_0 45 rfl
theorem dX9_back_79 : decode cX9_back 79 = .ok (.iconst 0, 1) := dOf oX9_back_0 46 rfl
theorem dX9_back_80 : decode cX9_back 80 = .ok (.putfield 145, 3) := dOf oX9_back_0 47 rfl
theorem dX9_back_83 : decode cX9_back 83 = .ok (.iinc 2 1, 3) := dOf oX9_back_0 48 rfl
theorem dX9_back_86 : decode cX9_back 86 = .ok (.iinc 3 1, 3) := dOf oX9_back_0 49 rfl
theorem dX9_back_89 : decode cX9_back 89 = .ok (.goto (-55), 3) := dOf oX9_back_0 50 rfl
theorem dX9_back_92 : decode cX9_back 92 = .ok (.iload_n 2, 1) := dOf oX9_back_0 51 rfl
theorem dX9_back_93 : decode cX9_back 93 = .ok (.ireturn, 1) := dOf oX9_back_0 52 rfl
def eX9_end_0 : List (Nat × Instr × Nat) := [(0, .aload_n 0, 1), (1, .iload_n 1, 1), (2, .invokevirtual 122, 3), (5, .ifCond .eq 8, 3), (8, .iload_n 2, 1), (9, .iconst (-1), 1), (10, .if_icmp .ge 5, 3), (13, .iconst (-1), 1), (14, .ireturn, 1), (15, .aload_n 0, 1), (16, .getfield 23, 3), (19, .iload_n 1, 1), (20, .aaload, 1), (21, .astore_n 3, 1), (22, .aload_n 3, 1), (23, .getfield 145, 3), (26, .iconst 2, 1), (27, .if_icmp .eq 11, 3), (30, .aload_n 3, 1), (31, .getfield 145, 3), (34, .iconst 1, 1), (35, .if_icmp .ne 14, 3), (38, .aload_n 3, 1), (39, .getfield 199, 3), (42, .iload_n 2, 1), (43, .invokevirtual 128, 3), (46, .goto 5, 3), (49, .bipush (-4), 2), (51, .ireturn, 1)]
theorem oX9_end_0 : okC cX9_end eX9_end_0 = true := by decide +kernel
theorem dX9_end_0 : decode cX9_end 0 = .ok (.aload_n 0, 1) := dOf oX9_end_0 0 rfl
theorem dX9_end_1 : decode cX9_end 1 = .ok (.iload_n 1, 1) := dOf oX9_end_0 1 rfl
theorem dX9_end_2 : decode cX9_end 2 = .ok (.invokevirtual 122, 3) := dOf oX9_end_0 2 rfl
theorem dX9_end_5 : decode cX9_end 5 = .ok (.ifCond .eq 8, 3) := dOf oX9_end_0 3 rfl
theorem dX9_end_8 : decode cX9_end 8 = .ok (.iload_n 2, 1) := dOf oX9_end_0 4 rfl
theorem dX9_end_9 : decode cX9_end 9 = .ok (.iconst (-1), 1) := dOf oX9_end_0 5 rfl
theorem dX9_end_10 : decode cX9_end 10 = .ok (.if_icmp .ge 5, 3) := dOf oX9_end_0 6 rfl
theorem dX9_end_13 : decode cX9_end 13 = .ok (.iconst (-1), 1) := dOf oX9_end_0 7 rfl
theorem dX9_end_14 : decode cX9_end 14 = .ok (.ireturn, 1) := dOf oX9_end_0 8 rfl
theorem dX9_end_15 : decode cX9_end 15 = .ok (.aload_n 0, 1) := dOf oX9_end_0 9 rfl
theorem dX9_end_16 : decode cX9_end 16 = .ok (.getfield 23, 3) := dOf oX9_end_0 10 rfl
theorem dX9_end_19 : decode cX9_end 19 = .ok (.iload_n 1, 1) := dOf oX9_end_0 11 rfl
theorem dX9_end_20 : decode cX9_end 20 = .ok (.aaload, 1) := dOf oX9_end_0 12 rfl
theorem dX9_end_21 : decode cX9_end 21 = .ok (.astore_n 3, 1) := dOf oX9_end_0 13 rfl
theorem dX9_end_22 : decode cX9_end 22 = .ok (.aload_n 3, 1) := dOf oX9_end_0 14 rfl
theorem dX9_end_23 : decode cX9_end 23 = .ok (.getfield 145, 3) := dOf oX9_end_0 15 rfl
theorem dX9_end_26 : decode cX9_end 26 = .ok (.iconst 2, 1) := dOf oX9_end_0 16 rfl
theorem dX9_end_27 : decode cX9_end 27 = .ok (.if_icmp .eq 11, 3) := dOf oX9_end_0 17 rfl
theorem dX9_end_30 : decode cX9_end 30 = .ok (.aload_n 3, 1) := dOf oX9_end_0 18 rfl
theorem dX9_end_31 : decode cX9_end 31 = .ok (.getfield 145, 3) := dOf oX9_end_0 19 rfl
theorem dX9_end_34 : decode cX9_end 34 = .ok (.iconst 1, 1) := dOf oX9_end_0 20 rfl
theorem dX9_end_35 : decode cX9_end 35 = .ok (.if_icmp .ne 14, 3) := dOf oX9_end_0 21 rfl
theorem dX9_end_38 : decode cX9_end 38 = .ok (.aload_n 3, 1) := dOf oX9_end_0 22 rfl
theorem dX9_end_39 : decode cX9_end 39 = .ok (.getfield 199, 3) := dOf oX9_end_0 23 rfl
theorem dX9_end_42 : decode cX9_end 42 = .ok (.iload_n 2, 1) := dOf oX9_end_0 24 rfl
theorem dX9_end_43 : decode cX9_end 43 = .ok (.invokevirtual 128, 3) := dOf oX9_end_0 25 rfl
theorem dX9_end_46 : decode cX9_end 46 = .ok (.goto 5, 3) := dOf oX9_end_0 26 rfl
theorem dX9_end_49 : decode cX9_end 49 = .ok (.bipush (-4), 2) := dOf oX9_end_0 27 rfl
theorem dX9_end_51 : decode cX9_end 51 = .ok (.ireturn, 1) := dOf oX9_end_0 28 rfl
def eX9_otherwise_0 : List (Nat × Instr × Nat) := [(0, .aload_n 0, 1), (1, .invokevirtual 156, 3), (4, .istore_n 1, 1), (5, .iload_n 1, 1), (6, .ifCond .eq 5, 3), (9, .iload_n 1, 1), (10, .ireturn, 1), (11, .iconst 0, 1), (12, .istore_n 2, 1), (13, .iconst 0, 1), (14, .istore_n 3, 1), (15, .iload_n 3, 1), (16, .aload_n 0, 1), (17, .getfield 27, 3), (20, .if_icmp .ge 75, 3), (23, .aload_n 0, 1), (24, .getfield 23, 3), (27, .iload_n 3, 1), (28, .aaload, 1), (29, .astore 4, 2), (31, .aload 4, 2), (33, .getfield 145, 3), (36, .iconst 2, 1), (37, .if_icmp .eq 6, 3), (40, .goto 49, 3), (43, .aload_n 0, 1), (44, .getfield 34, 3), (47, .getfield 163, 3), (50, .iconst 0, 1), (51, .aaload, 1), (52, .aload 4, 2), (54, .aload_n 0, 1), (55, .getfield 18, 3), (58, .invokevirtual 167, 3), (61, .istore 5, 2), (63, .iload 5, 2), (65, .ifCond .eq 18, 3), (68, .aload_n 0, 1), (69, .getfield 18, 3), (72, .aload 4, 2), (74, .getfield 199, 3), (77, .invokevirtual 202, 3), (80, .ifCond .ne 9, 3), (83, .iload_n 2, 1), (84, .iconst 1, 1), (85, .iload_n 3, 1), (86, .ishl, 1), (87, .ior, 1), (88, .istore_n 2, 1), (89, .iinc 3 1, 3), (92, .goto (-77), 3), (95, .iload_n 2, 1), (96, .ireturn, 1)]
theorem oX9_otherwise_0 : okC cX9_otherwise eX9_otherwise_0 = true := by decide +kernel
theorem dX9_otherwise_0 : decode cX9_otherwise 0 = .ok (.aload_n 0, 1) := dOf oX9_otherwise_0 0 rfl
theorem dX9_otherwise_1 : decode cX9_otherwise 1 = .ok (.invokevirtual 156, 3) := dOf oX9_otherwise_0 1 rfl
theorem dX9_otherwise_4 : decode cX9_otherwise 4 = .ok (.istore_n 1, 1) := dOf oX9_otherwise_0 2 rfl
theorem dX9_otherwise_5 : decode cX9_otherwise 5 = .ok (.iload_n 1, 1) := dOf oX9_otherwise_0 3 rfl
theorem dX9_otherwise_6 : decode cX9_otherwise 6 = .ok (.ifCond .eq 5, 3) := dOf oX9_otherwise_0 4 rfl
theorem dX9_otherwise_9 : decode cX9_otherwise 9 = .ok (.iload_n 1, 1) := dOf oX9_otherwise_0 5 rfl
theorem dX9_otherwise_10 : decode cX9_otherwise 10 = .ok (.ireturn, 1) := dOf oX9_otherwise_0 6 rfl
theorem dX9_otherwise_11 : decode cX9_otherwise 11 = .ok (.iconst 0, 1) := dOf oX9_otherwise_0 7 rfl
theorem dX9_otherwise_12 : decode cX9_otherwise 12 = .ok (.istore_n 2, 1) := dOf oX9_otherwise_0 8 rfl
theorem dX9_otherwise_13 : decode cX9_otherwise 13 = .ok (.iconst 0, 1) := dOf oX9_otherwise_0 9 rfl
theorem dX9_otherwise_14 : decode cX9_otherwise 14 = .ok (.istore_n 3, 1) := dOf oX9_otherwise_0 10 rfl
theorem dX9_otherwise_15 : decode cX9_otherwise 15 = .ok (.iload_n 3, 1) := dOf oX9_otherwise_0 11 rfl
theorem dX9_otherwise_16 : decode cX9_otherwise 16 = .ok (.aload_n 0, 1) := dOf oX9_otherwise_0 12 rfl
theorem dX9_otherwise_17 : decode cX9_otherwise 17 = .ok (.getfield 27, 3) := dOf oX9_otherwise_0 13 rfl
theorem dX9_otherwise_20 : decode cX9_otherwise 20 = .ok (.if_icmp .ge 75, 3) := dOf oX9_otherwise_0 14 rfl
theorem dX9_otherwise_23 : decode cX9_otherwise 23 = .ok (.aload_n 0, 1) := dOf oX9_otherwise_0 15 rfl
theorem dX9_otherwise_24 : decode cX9_otherwise 24 = .ok (.getfield 23, 3) := dOf oX9_otherwise_0 16 rfl
theorem dX9_otherwise_27 : decode cX9_otherwise 27 = .ok (.iload_n 3, 1) := dOf oX9_otherwise_0 17 rfl
theorem dX9_otherwise_28 : decode cX9_otherwise 28 = .ok (.aaload, 1) := dOf oX9_otherwise_0 18 rfl
theorem dX9_otherwise_29 : decode cX9_otherwise 29 = .ok (.astore 4, 2) := dOf oX9_otherwise_0 19 rfl
theorem dX9_otherwise_31 : decode cX9_otherwise 31 = .ok (.aload 4, 2) := dOf oX9_otherwise_0 20 rfl
theorem dX9_otherwise_33 : decode cX9_otherwise 33 = .ok (.getfield 145, 3) := dOf oX9_otherwise_0 21 rfl
theorem dX9_otherwise_36 : decode cX9_otherwise 36 = .ok (.iconst 2, 1) := dOf oX9_otherwise_0 22 rfl
theorem dX9_otherwise_37 : decode cX9_otherwise 37 = .ok (.if_icmp .eq 6, 3) := dOf oX9_otherwise_0 23 rfl
theorem dX9_otherwise_40 : decode cX9_otherwise 40 = .ok (.goto 49, 3) := dOf oX9_otherwise_0 24 rfl
theorem dX9_otherwise_43 : decode cX9_otherwise 43 = .ok (.aload_n 0, 1) := dOf oX9_otherwise_0 25 rfl
theorem dX9_otherwise_44 : decode cX9_otherwise 44 = .ok (.getfield 34, 3) := dOf oX9_otherwise_0 26 rfl
theorem dX9_otherwise_47 : decode cX9_otherwise 47 = .ok (.getfield 163, 3) := dOf oX9_otherwise_0 27 rfl
theorem dX9_otherwise_50 : decode cX9_otherwise 50 = .ok (.iconst 0, 1) := dOf oX9_otherwise_0 28 rfl
theorem dX9_otherwise_51 : decode cX9_otherwise 51 = .ok (.aaload, 1) := dOf oX9_otherwise_0 29 rfl
theorem dX9_otherwise_52 : decode cX9_otherwise 52 = .ok (.aload 4, 2) := dOf oX9_otherwise_0 30 rfl
theorem dX9_otherwise_54 : decode cX9_otherwise 54 = .ok (.aload_n 0, 1) := dOf oX9_otherwise_0 31 rfl
theorem dX9_otherwise_55 : decode cX9_otherwise 55 = .ok (.getfield 18, 3) := dOf oX9_otherwise_0 32 rfl
theorem dX9_otherwise_58 : decode cX9_otherwise 58 = .ok (.invokevirtual 167, 3) := dOf oX9_otherwise_0 33 rfl
theorem dX9_otherwise_61 : decode cX9_otherwise 61 = .ok (.istore 5, 2) := dOf oX9_otherwise_0 34 rfl
theorem dX9_otherwise_63 : decode cX9_otherwise 63 = .ok (.iload 5, 2) := dOf oX9_otherwise_0 35 rfl
theorem dX9_otherwise_65 : decode cX9_otherwise 65 = .ok (.ifCond .eq 18, 3) := dOf oX9_otherwise_0 36 rfl
theorem dX9_otherwise_68 : decode cX9_otherwise 68 = .ok (.aload_n 0, 1) := dOf oX9_otherwise_0 37 rfl
theorem dX9_otherwise_69 : decode cX9_otherwise 69 = .ok (.getfield 18, 3) := dOf oX9_otherwise_0 38 rfl
theorem dX9_otherwise_72 : decode cX9_otherwise 72 = .ok (.aload 4, 2) := dOf oX9_otherwise_0 39 rfl
theorem dX9_otherwise_74 : decode cX9_otherwise 74 = .ok (.getfield 199, 3) := dOf oX9_otherwise_0 40 rfl
theorem dX9_otherwise_77 : decode cX9_otherwise 77 = .ok (.invokevirtual 202, 3) := dOf oX9_otherwise_0 41 rfl
theorem dX9_otherwise_80 : decode cX9_otherwise 80 = .ok (.ifCond .ne 9, 3) := dOf oX9_otherwise_0 42 rfl
theorem dX9_otherwise_83 : decode cX9_otherwise 83 = .ok (.iload_n 2, 1) := dOf oX9_otherwise_0 43 rfl
theorem dX9_otherwise_84 : decode cX9_otherwise 84 = .ok (.iconst 1, 1) := dOf oX9_otherwise_0 44 rfl
theorem dX9_otherwise_85 : decode cX9_otherwise 85 = .ok (.iload_n 3, 1) := dOf oX9_otherwise_0 45 rfl
theorem dX9_otherwise_86 : decode cX9_otherwise 86 = .ok (.ishl, 1) := dOf oX9_otherwise_0 46 rfl
theorem dX9_otherwise_87 : decode cX9_otherwise 87 = .ok (.ior, 1) := dOf oX9_otherwise_0 47 rfl
theorem dX9_otherwise_88 : decode cX9_otherwise 88 = .ok (.istore_n 2, 1) := dOf oX9_otherwise_0 48 rfl
theorem dX9_otherwise_89 : decode cX9_otherwise 89 = .ok (.iinc 3 1, 3) := dOf oX9_otherwise_0 49 rfl
theorem dX9_otherwise_92 : decode cX9_otherwise 92 = .ok (.goto (-77), 3) := dOf oX9_otherwise_0 50 rfl
theorem dX9_otherwise_95 : decode cX9_otherwise 95 = .ok (.iload_n 2, 1) := dOf oX9_otherwise_0 51 rfl
theorem dX9_otherwise_96 : decode cX9_otherwise 96 = .ok (.ireturn, 1) := dOf oX9_otherwise_0 52 rfl
def eX9_keep_0 : List (Nat × Instr × Nat) := [(0, .aload_n 0, 1), (1, .invokevirtual 156, 3), (4, .istore_n 1, 1), (5, .iload_n 1, 1), (6, .ifCond .eq 5, 3), (9, .iload_n 1, 1), (10, .ireturn, 1), (11, .aload_n 0, 1), (12, .aload_n 0, 1), (13, .getfield 34, 3), (16, .getfield 163, 3), (19, .iconst 0, 1), (20, .aaload, 1), (21, .invokevirtual 206, 3), (24, .ireturn, 1)]
theorem oX9_keep_0 : okC cX9_keep eX9_keep_0 = true := by decide +kernel
theorem dX9_keep_0 : decode cX9_keep 0 = .ok (.aload_n 0, 1) := dOf oX9_keep_0 0 rfl
theorem dX9_keep_1 : decode cX9_keep 1 = .ok (.invokevirtual 156, 3) := dOf oX9_keep_0 1 rfl
theorem dX9_keep_4 : decode cX9_keep 4 = .ok (.istore_n 1, 1) := dOf oX9_keep_0 2 rfl
theorem dX9_keep_5 : decode cX9_keep 5 = .ok (.iload_n 1, 1) := dOf oX9_keep_0 3 rfl
theorem dX9_keep_6 : decode cX9_keep 6 = .ok (.ifCond .eq 5, 3) := dOf oX9_keep_0 4 rfl
theorem dX9_keep_9 : decode cX9_keep 9 = .ok (.iload_n 1, 1) := dOf oX9_keep_0 5 rfl
theorem dX9_keep_10 : decode cX9_keep 10 = .ok (.ireturn, 1) := dOf oX9_keep_0 6 rfl
theorem dX9_keep_11 : decode cX9_keep 11 = .ok (.aload_n 0, 1) := dOf oX9_keep_0 7 rfl
theorem dX9_keep_12 : decode cX9_keep 12 = .ok (.aload_n 0, 1) := dOf oX9_keep_0 8 rfl
theorem dX9_keep_13 : decode cX9_keep 13 = .ok (.getfield 34, 3) := dOf oX9_keep_0 9 rfl
theorem dX9_keep_16 : decode cX9_keep 16 = .ok (.getfield 163, 3) := dOf oX9_keep_0 10 rfl
theorem dX9_keep_19 : decode cX9_keep 19 = .ok (.iconst 0, 1) := dOf oX9_keep_0 11 rfl
theorem dX9_keep_20 : decode cX9_keep 20 = .ok (.aaload, 1) := dOf oX9_keep_0 12 rfl
theorem dX9_keep_21 : decode cX9_keep 21 = .ok (.invokevirtual 206, 3) := dOf oX9_keep_0 13 rfl
theorem dX9_keep_24 : decode cX9_keep 24 = .ok (.ireturn, 1) := dOf oX9_keep_0 14 rfl
def eX9_text_0 : List (Nat × Instr × Nat) := [(0, .aload_n 0, 1), (1, .getfield 71, 3), (4, .aload_n 0, 1), (5, .getfield 14, 3), (8, .invokevirtual 210, 3), (11, .istore_n 1, 1), (12, .aload_n 0, 1), (13, .getfield 14, 3), (16, .invokevirtual 102, 3), (19, .iload_n 1, 1), (20, .ifCond .lt 10, 3), (23, .bipush (-20), 2), (25, .iload_n 1, 1), (26, .isub, 1), (27, .goto 14, 3), (30, .aload_n 0, 1), (31, .aload_n 0, 1), (32, .getfield 71, 3), (35, .getfield 213, 3), (38, .invokevirtual 206, 3), (41, .ireturn, 1)]
theorem oX9_text_0 : okC cX9_text eX9_text_0 = true := by decide +kernel
theorem dX9_text_0 : decode cX9_text 0 = .ok (.aload_n 0, 1) := dOf oX9_text_0 0 rfl
theorem dX9_text_1 : decode cX9_text 1 = .ok (.getfield 71, 3) := dOf oX9_text_0 1 rfl
theorem dX9_text_4 : decode cX9_text 4 = .ok (.aload_n 0, 1) := dOf oX9_text_0 2 rfl
theorem dX9_text_5 : decode cX9_text 5 = .ok (.getfield 14, 3) := dOf oX9_text_0 3 rfl
theorem dX9_text_8 : decode cX9_text 8 = .ok (.invokevirtual 210, 3) := dOf oX9_text_0 4 rfl
theorem dX9_text_11 : decode cX9_text 11 = .ok (.istore_n 1, 1) := dOf oX9_text_0 5 rfl
theorem dX9_text_12 : decode cX9_text 12 = .ok (.aload_n 0, 1) := dOf oX9_text_0 6 rfl
theorem dX9_text_13 : decode cX9_text 13 = .ok (.getfield 14, 3) := dOf oX9_text_0 7 rfl
theorem dX9_text_16 : decode cX9_text 16 = .ok (.invokevirtual 102, 3) := dOf oX9_text_0 8 rfl
theorem dX9_text_19 : decode cX9_text 19 = .ok (.iload_n 1, 1) := dOf oX9_text_0 9 rfl
theorem dX9_text_20 : decode cX9_text 20 = .ok (.ifCond .lt 10, 3) := dOf oX9_text_0 10 rfl
theorem dX9_text_23 : decode cX9_text 23 = .ok (.bipush (-20), 2) := dOf oX9_text_0 11 rfl
theorem dX9_text_25 : decode cX9_text 25 = .ok (.iload_n 1, 1) := dOf oX9_text_0 12 rfl
theorem dX9_text_26 : decode cX9_text 26 = .ok (.isub, 1) := dOf oX9_text_0 13 rfl
theorem dX9_text_27 : decode cX9_text 27 = .ok (.goto 14, 3) := dOf oX9_text_0 14 rfl
theorem dX9_text_30 : decode cX9_text 30 = .ok (.aload_n 0, 1) := dOf oX9_text_0 15 rfl
theorem dX9_text_31 : decode cX9_text 31 = .ok (.aload_n 0, 1) := dOf oX9_text_0 16 rfl
theorem dX9_text_32 : decode cX9_text 32 = .ok (.getfield 71, 3) := dOf oX9_text_0 17 rfl
theorem dX9_text_35 : decode cX9_text 35 = .ok (.getfield 213, 3) := dOf oX9_text_0 18 rfl
theorem dX9_text_38 : decode cX9_text 38 = .ok (.invokevirtual 206, 3) := dOf oX9_text_0 19 rfl
theorem dX9_text_41 : decode cX9_text 41 = .ok (.ireturn, 1) := dOf oX9_text_0 20 rfl
def eX9_kept_0 : List (Nat × Instr × Nat) := [(0, .aload_n 0, 1), (1, .iload_n 1, 1), (2, .invokevirtual 217, 3), (5, .ifCond .eq 16, 3), (8, .aload_n 0, 1), (9, .getfield 61, 3), (12, .iload_n 1, 1), (13, .aaload, 1), (14, .iload_n 2, 1), (15, .invokevirtual 166, 3), (18, .goto 4, 3), (21, .iconst (-1), 1), (22, .ireturn, 1)]
theorem oX9_kept_0 : okC cX9_kept eX9_kept_0 = true := by decide +kernel
theorem dX9_kept_0 : decode cX9_kept 0 = .ok (.aload_n 0, 1) := dOf oX9_kept_0 0 rfl
theorem dX9_kept_1 : decode cX9_kept 1 = .ok (.iload_n 1, 1) := dOf oX9_kept_0 1 rfl
theorem dX9_kept_2 : decode cX9_kept 2 = .ok (.invokevirtual 217, 3) := dOf oX9_kept_0 2 rfl
theorem dX9_kept_5 : decode cX9_kept 5 = .ok (.ifCond .eq 16, 3) := dOf oX9_kept_0 3 rfl
theorem dX9_kept_8 : decode cX9_kept 8 = .ok (.aload_n 0, 1) := dOf oX9_kept_0 4 rfl
theorem dX9_kept_9 : decode cX9_kept 9 = .ok (.getfield 61, 3) := dOf oX9_kept_0 5 rfl
theorem dX9_kept_12 : decode cX9_kept 12 = .ok (.iload_n 1, 1) := dOf oX9_kept_0 6 rfl
theorem dX9_kept_13 : decode cX9_kept 13 = .ok (.aaload, 1) := dOf oX9_kept_0 7 rfl
theorem dX9_kept_14 : decode cX9_kept 14 = .ok (.iload_n 2, 1) := dOf oX9_kept_0 8 rfl
theorem dX9_kept_15 : decode cX9_kept 15 = .ok (.invokevirtual 166, 3) := dOf oX9_kept_0 9 rfl
theorem dX9_kept_18 : decode cX9_kept 18 = .ok (.goto 4, 3) := dOf oX9_kept_0 10 rfl
theorem dX9_kept_21 : decode cX9_kept 21 = .ok (.iconst (-1), 1) := dOf oX9_kept_0 11 rfl
theorem dX9_kept_22 : decode cX9_kept 22 = .ok (.ireturn, 1) := dOf oX9_kept_0 12 rfl
def eX9_run_0 : List (Nat × Instr × Nat) := [(0, .aload_n 0, 1), (1, .iload_n 1, 1), (2, .invokevirtual 217, 3), (5, .ifCond .eq 16, 3), (8, .aload_n 0, 1), (9, .iload_n 2, 1), (10, .invokevirtual 122, 3), (13, .ifCond .eq 8, 3), (16, .iload_n 3, 1), (17, .iconst (-1), 1), (18, .if_icmp .ge 5, 3), (21, .iconst (-1), 1), (22, .ireturn, 1), (23, .aload_n 0, 1), (24, .getfield 61, 3), (27, .iload_n 1, 1), (28, .aaload, 1), (29, .aload_n 0, 1), (30, .getfield 23, 3), (33, .iload_n 2, 1), (34, .aaload, 1), (35, .aload_n 0, 1), (36, .getfield 18, 3), (39, .invokevirtual 167, 3), (42, .ifCond .eq 14, 3), (45, .aload_n 0, 1), (46, .getfield 18, 3), (49, .iload_n 3, 1), (50, .invokevirtual 128, 3), (53, .goto 5, 3), (56, .bipush (-4), 2), (58, .ireturn, 1)]
theorem oX9_run_0 : okC cX9_run eX9_run_0 = true := by decide +kernel
theorem dX9_run_0 : decode cX9_run 0 = .ok (.aload_n 0, 1) := dOf oX9_run_0 0 rfl
theorem dX9_run_1 : decode cX9_run 1 = .ok (.iload_n 1, 1) := dOf oX9_run_0 1 rfl
theorem dX9_run_2 : decode cX9_run 2 = .ok (.invokevirtual 217, 3) := dOf oX9_run_0 2 rfl
theorem dX9_run_5 : decode cX9_run 5 = .ok (.ifCond .eq 16, 3) := dOf oX9_run_0 3 rfl
theorem dX9_run_8 : decode cX9_run 8 = .ok (.aload_n 0, 1) := dOf oX9_run_0 4 rfl
theorem dX9_run_9 : decode cX9_run 9 = .ok (.iload_n 2, 1) := dOf oX9_run_0 5 rfl
theorem dX9_run_10 : decode cX9_run 10 = .ok (.invokevirtual 122, 3) := dOf oX9_run_0 6 rfl
theorem dX9_run_13 : decode cX9_run 13 = .ok (.ifCond .eq 8, 3) := dOf oX9_run_0 7 rfl
theorem dX9_run_16 : decode cX9_run 16 = .ok (.iload_n 3, 1) := dOf oX9_run_0 8 rfl
theorem dX9_run_17 : decode cX9_run 17 = .ok (.iconst (-1), 1) := dOf oX9_run_0 9 rfl
theorem dX9_run_18 : decode cX9_run 18 = .ok (.if_icmp .ge 5, 3) := dOf oX9_run_0 10 rfl
theorem dX9_run_21 : decode cX9_run 21 = .ok (.iconst (-1), 1) := dOf oX9_run_0 11 rfl
theorem dX9_run_22 : decode cX9_run 22 = .ok (.ireturn, 1) := dOf oX9_run_0 12 rfl
theorem dX9_run_23 : decode cX9_run 23 = .ok (.aload_n 0, 1) := dOf oX9_run_0 13 rfl
theorem dX9_run_24 : decode cX9_run 24 = .ok (.getfield 61, 3) := dOf oX9_run_0 14 rfl
theorem dX9_run_27 : decode cX9_run 27 = .ok (.iload_n 1, 1) := dOf oX9_run_0 15 rfl
theorem dX9_run_28 : decode cX9_run 28 = .ok (.aaload, 1) := dOf oX9_run_0 16 rfl
theorem dX9_run_29 : decode cX9_run 29 = .ok (.aload_n 0, 1) := dOf oX9_run_0 17 rfl
theorem dX9_run_30 : decode cX9_run 30 = .ok (.getfield 23, 3) := dOf oX9_run_0 18 rfl
theorem dX9_run_33 : decode cX9_run 33 = .ok (.iload_n 2, 1) := dOf oX9_run_0 19 rfl
theorem dX9_run_34 : decode cX9_run 34 = .ok (.aaload, 1) := dOf oX9_run_0 20 rfl
theorem dX9_run_35 : decode cX9_run 35 = .ok (.aload_n 0, 1) := dOf oX9_run_0 21 rfl
theorem dX9_run_36 : decode cX9_run 36 = .ok (.getfield 18, 3) := dOf oX9_run_0 22 rfl
theorem dX9_run_39 : decode cX9_run 39 = .ok (.invokevirtual 167, 3) := dOf oX9_run_0 23 rfl
theorem dX9_run_42 : decode cX9_run 42 = .ok (.ifCond .eq 14, 3) := dOf oX9_run_0 24 rfl
theorem dX9_run_45 : decode cX9_run 45 = .ok (.aload_n 0, 1) := dOf oX9_run_0 25 rfl
theorem dX9_run_46 : decode cX9_run 46 = .ok (.getfield 18, 3) := dOf oX9_run_0 26 rfl
theorem dX9_run_49 : decode cX9_run 49 = .ok (.iload_n 3, 1) := dOf oX9_run_0 27 rfl
theorem dX9_run_50 : decode cX9_run 50 = .ok (.invokevirtual 128, 3) := dOf oX9_run_0 28 rfl
theorem dX9_run_53 : decode cX9_run 53 = .ok (.goto 5, 3) := dOf oX9_run_0 29 rfl
theorem dX9_run_56 : decode cX9_run 56 = .ok (.bipush (-4), 2) := dOf oX9_run_0 30 rfl
theorem dX9_run_58 : decode cX9_run 58 = .ok (.ireturn, 1) := dOf oX9_run_0 31 rfl
def eX9_count_0 : List (Nat × Instr × Nat) := [(0, .iload_n 1, 1), (1, .tableswitch 51 0 4 #[35, 40, 40, 40, 46], 35), (36, .aload_n 0, 1), (37, .getfield 27, 3), (40, .ireturn, 1), (41, .aload_n 0, 1), (42, .iload_n 1, 1), (43, .invokevirtual 151, 3), (46, .ireturn, 1), (47, .aload_n 0, 1), (48, .getfield 65, 3), (51, .ireturn, 1), (52, .iconst (-1), 1), (53, .ireturn, 1)]
theorem oX9_count_0 : okC cX9_count eX9_count_0 = true := by decide +kernel
theorem dX9_count_0 : decode cX9_count 0 = .ok (.iload_n 1, 1) := dOf oX9_count_0 0 rfl
theorem dX9_count_1 : decode cX9_count 1 = .ok (.tableswitch 51 0 4 #[35, 40, 40, 40, 46], 35) := dOf oX9_count_0 1 rfl
theorem dX9_count_36 : decode cX9_count 36 = .ok (.aload_n 0, 1) := dOf oX9_count_0 2 rfl
theorem dX9_count_37 : decode cX9_count 37 = .ok (.getfield 27, 3) := dOf oX9_count_0 3 rfl
theorem dX9_count_40 : decode cX9_count 40 = .ok (.ireturn, 1) := dOf oX9_count_0 4 rfl
theorem dX9_count_41 : decode cX9_count 41 = .ok (.aload_n 0, 1) := dOf oX9_count_0 5 rfl
theorem dX9_count_42 : decode cX9_count 42 = .ok (.iload_n 1, 1) := dOf oX9_count_0 6 rfl
theorem dX9_count_43 : decode cX9_count 43 = .ok (.invokevirtual 151, 3) := dOf oX9_count_0 7 rfl
theorem dX9_count_46 : decode cX9_count 46 = .ok (.ireturn, 1) := dOf oX9_count_0 8 rfl
theorem dX9_count_47 : decode cX9_count 47 = .ok (.aload_n 0, 1) := dOf oX9_count_0 9 rfl
theorem dX9_count_48 : decode cX9_count 48 = .ok (.getfield 65, 3) := dOf oX9_count_0 10 rfl
theorem dX9_count_51 : decode cX9_count 51 = .ok (.ireturn, 1) := dOf oX9_count_0 11 rfl
theorem dX9_count_52 : decode cX9_count 52 = .ok (.iconst (-1), 1) := dOf oX9_count_0 12 rfl
theorem dX9_count_53 : decode cX9_count 53 = .ok (.ireturn, 1) := dOf oX9_count_0 13 rfl
def eX9_sheet_0 : List (Nat × Instr × Nat) := [(0, .iload_n 1, 1), (1, .invokestatic 105, 3), (4, .ifCond .eq 16, 3), (7, .iload_n 2, 1), (8, .invokestatic 108, 3), (11, .ifCond .eq 9, 3), (14, .iload_n 3, 1), (15, .bipush 20, 2), (17, .if_icmp .le 5, 3), (20, .iconst (-1), 1), (21, .ireturn, 1), (22, .iload_n 3, 1), (23, .ifCond .ge 6, 3), (26, .bipush (-14), 2), (28, .ireturn, 1), (29, .aload_n 0, 1), (30, .getfield 77, 3), (33, .iload_n 1, 1), (34, .aaload, 1), (35, .iload_n 2, 1), (36, .iload_n 3, 1), (37, .invokevirtual 220, 3), (40, .iload_n 3, 1), (41, .ireturn, 1)]
theorem oX9_sheet_0 : okC cX9_sheet eX9_sheet_0 = true := by decide +kernel
theorem dX9_sheet_0 : decode cX9_sheet 0 = .ok (.iload_n 1, 1) := dOf oX9_sheet_0 0 rfl
theorem dX9_sheet_1 : decode cX9_sheet 1 = .ok (.invokestatic 105, 3) := dOf oX9_sheet_0 1 rfl
theorem dX9_sheet_4 : decode cX9_sheet 4 = .ok (.ifCond .eq 16, 3) := dOf oX9_sheet_0 2 rfl
theorem dX9_sheet_7 : decode cX9_sheet 7 = .ok (.iload_n 2, 1) := dOf oX9_sheet_0 3 rfl
theorem dX9_sheet_8 : decode cX9_sheet 8 = .ok (.invokestatic 108, 3) := dOf oX9_sheet_0 4 rfl
theorem dX9_sheet_11 : decode cX9_sheet 11 = .ok (.ifCond .eq 9, 3) := dOf oX9_sheet_0 5 rfl
theorem dX9_sheet_14 : decode cX9_sheet 14 = .ok (.iload_n 3, 1) := dOf oX9_sheet_0 6 rfl
theorem dX9_sheet_15 : decode cX9_sheet 15 = .ok (.bipush 20, 2) := dOf oX9_sheet_0 7 rfl
theorem dX9_sheet_17 : decode cX9_sheet 17 = .ok (.if_icmp .le 5, 3) := dOf oX9_sheet_0 8 rfl
theorem dX9_sheet_20 : decode cX9_sheet 20 = .ok (.iconst (-1), 1) := dOf oX9_sheet_0 9 rfl
theorem dX9_sheet_21 : decode cX9_sheet 21 = .ok (.ireturn, 1) := dOf oX9_sheet_0 10 rfl
theorem dX9_sheet_22 : decode cX9_sheet 22 = .ok (.iload_n 3, 1) := dOf oX9_sheet_0 11 rfl
theorem dX9_sheet_23 : decode cX9_sheet 23 = .ok (.ifCond .ge 6, 3) := dOf oX9_sheet_0 12 rfl
theorem dX9_sheet_26 : decode cX9_sheet 26 = .ok (.bipush (-14), 2) := dOf oX9_sheet_0 13 rfl
theorem dX9_sheet_28 : decode cX9_sheet 28 = .ok (.ireturn, 1) := dOf oX9_sheet_0 14 rfl
theorem dX9_sheet_29 : decode cX9_sheet 29 = .ok (.aload_n 0, 1) := dOf oX9_sheet_0 15 rfl
theorem dX9_sheet_30 : decode cX9_sheet 30 = .ok (.getfield 77, 3) := dOf oX9_sheet_0 16 rfl
theorem dX9_sheet_33 : decode cX9_sheet 33 = .ok (.iload_n 1, 1) := dOf oX9_sheet_0 17 rfl
theorem dX9_sheet_34 : decode cX9_sheet 34 = .ok (.aaload, 1) := dOf oX9_sheet_0 18 rfl
theorem dX9_sheet_35 : decode cX9_sheet 35 = .ok (.iload_n 2, 1) := dOf oX9_sheet_0 19 rfl
theorem dX9_sheet_36 : decode cX9_sheet 36 = .ok (.iload_n 3, 1) := dOf oX9_sheet_0 20 rfl
theorem dX9_sheet_37 : decode cX9_sheet 37 = .ok (.invokevirtual 220, 3) := dOf oX9_sheet_0 21 rfl
theorem dX9_sheet_40 : decode cX9_sheet 40 = .ok (.iload_n 3, 1) := dOf oX9_sheet_0 22 rfl
theorem dX9_sheet_41 : decode cX9_sheet 41 = .ok (.ireturn, 1) := dOf oX9_sheet_0 23 rfl
def eX9_drop_0 : List (Nat × Instr × Nat) := [(0, .iload_n 1, 1), (1, .invokestatic 105, 3), (4, .ifCond .ne 5, 3), (7, .iconst (-1), 1), (8, .ireturn, 1), (9, .aload_n 0, 1), (10, .getfield 77, 3), (13, .iload_n 1, 1), (14, .aaload, 1), (15, .astore_n 2, 1), (16, .aload_n 2, 1), (17, .invokevirtual 224, 3), (20, .ifCond .ne 6, 3), (23, .bipush (-11), 2), (25, .ireturn, 1), (26, .aload_n 2, 1), (27, .getfield 228, 3), (30, .istore_n 3, 1), (31, .aload_n 2, 1), (32, .invokevirtual 229, 3), (35, .iload_n 3, 1), (36, .ireturn, 1)]
theorem oX9_drop_0 : okC cX9_drop eX9_drop_0 = true := by decide +kernel
theorem dX9_drop_0 : decode cX9_drop 0 = .ok (.iload_n 1, 1) := dOf oX9_drop_0 0 rfl
theorem dX9_drop_1 : decode cX9_drop 1 = .ok (.invokestatic 105, 3) := dOf oX9_drop_0 1 rfl
theorem dX9_drop_4 : decode cX9_drop 4 = .ok (.ifCond .ne 5, 3) := dOf oX9_drop_0 2 rfl
theorem dX9_drop_7 : decode cX9_drop 7 = .ok (.iconst (-1), 1) := dOf oX9_drop_0 3 rfl
theorem dX9_drop_8 : decode cX9_drop 8 = .ok (.ireturn, 1) := dOf oX9_drop_0 4 rfl
theorem dX9_drop_9 : decode cX9_drop 9 = .ok (.aload_n 0, 1) := dOf oX9_drop_0 5 rfl
theorem dX9_drop_10 : decode cX9_drop 10 = .ok (.getfield 77, 3) := dOf oX9_drop_0 6 rfl
theorem dX9_drop_13 : decode cX9_drop 13 = .ok (.iload_n 1, 1) := dOf oX9_drop_0 7 rfl
theorem dX9_drop_14 : decode cX9_drop 14 = .ok (.aaload, 1) := dOf oX9_drop_0 8 rfl
theorem dX9_drop_15 : decode cX9_drop 15 = .ok (.astore_n 2, 1) := dOf oX9_drop_0 9 rfl
theorem dX9_drop_16 : decode cX9_drop 16 = .ok (.aload_n 2, 1) := dOf oX9_drop_0 10 rfl
theorem dX9_drop_17 : decode cX9_drop 17 = .ok (.invokevirtual 224, 3) := dOf oX9_drop_0 11 rfl
theorem dX9_drop_20 : decode cX9_drop 20 = .ok (.ifCond .ne 6, 3) := dOf oX9_drop_0 12 rfl
theorem dX9_drop_23 : decode cX9_drop 23 = .ok (.bipush (-11), 2) := dOf oX9_drop_0 13 rfl
theorem dX9_drop_25 : decode cX9_drop 25 = .ok (.ireturn, 1) := dOf oX9_drop_0 14 rfl
theorem dX9_drop_26 : decode cX9_drop 26 = .ok (.aload_n 2, 1) := dOf oX9_drop_0 15 rfl
theorem dX9_drop_27 : decode cX9_drop 27 = .ok (.getfield 228, 3) := dOf oX9_drop_0 16 rfl
theorem dX9_drop_30 : decode cX9_drop 30 = .ok (.istore_n 3, 1) := dOf oX9_drop_0 17 rfl
theorem dX9_drop_31 : decode cX9_drop 31 = .ok (.aload_n 2, 1) := dOf oX9_drop_0 18 rfl
theorem dX9_drop_32 : decode cX9_drop 32 = .ok (.invokevirtual 229, 3) := dOf oX9_drop_0 19 rfl
theorem dX9_drop_35 : decode cX9_drop 35 = .ok (.iload_n 3, 1) := dOf oX9_drop_0 20 rfl
theorem dX9_drop_36 : decode cX9_drop 36 = .ok (.ireturn, 1) := dOf oX9_drop_0 21 rfl
def eX9_item_0 : List (Nat × Instr × Nat) := [(0, .iload_n 1, 1), (1, .invokestatic 105, 3), (4, .ifCond .eq 10, 3), (7, .iload_n 2, 1), (8, .invokestatic 108, 3), (11, .ifCond .ne 5, 3), (14, .iconst (-1), 1), (15, .ireturn, 1), (16, .aload_n 0, 1), (17, .getfield 77, 3), (20, .iload_n 1, 1), (21, .aaload, 1), (22, .astore 5, 2), (24, .aload 5, 2), (26, .iload_n 2, 1), (27, .invokevirtual 111, 3), (30, .istore 6, 2), (32, .iload 6, 2), (34, .ifCond .eq 6, 3), (37, .iload 6, 2), (39, .ireturn, 1), (40, .aload 5, 2), (42, .iload_n 3, 1), (43, .iconst 1, 1), (44, .invokevirtual 115, 3), (47, .ifCond .ne 6, 3), (50, .bipush (-13), 2), (52, .ireturn, 1), (53, .aload 5, 2), (55, .iload_n 3, 1), (56, .iload 4, 2), (58, .invokevirtual 232, 3), (61, .iconst 1, 1), (62, .ireturn, 1)]
theorem oX9_item_0 : okC cX9_item eX9_item_0 = true := by decide +kernel
theorem dX9_item_0 : decode cX9_item 0 = .ok (.iload_n 1, 1) := dOf oX9_item_0 0 rfl
theorem dX9_item_1 : decode cX9_item 1 = .ok (.invokestatic 105, 3) := dOf oX9_item_0 1 rfl
theorem dX9_item_4 : decode cX9_item 4 = .ok (.ifCond .eq 10, 3) := dOf oX9_item_0 2 rfl
theorem dX9_item_7 : decode cX9_item 7 = .ok (.iload_n 2, 1) := dOf oX9_item_0 3 rfl
theorem dX9_item_8 : decode cX9_item 8 = .ok (.invokestatic 108, 3) := dOf oX9_item_0 4 rfl
theorem dX9_item_11 : decode cX9_item 11 = .ok (.ifCond .ne 5, 3) := dOf oX9_item_0 5 rfl
theorem dX9_item_14 : decode cX9_item 14 = .ok (.iconst (-1), 1) := dOf oX9_item_0 6 rfl
theorem dX9_item_15 : decode cX9_item 15 = .ok (.ireturn, 1) := dOf oX9_item_0 7 rfl
theorem dX9_item_16 : decode cX9_item 16 = .ok (.aload_n 0, 1) := dOf oX9_item_0 8 rfl
theorem dX9_item_17 : decode cX9_item 17 = .ok (.getfield 77, 3) := dOf oX9_item_0 9 rfl
theorem dX9_item_20 : decode cX9_item 20 = .ok (.iload_n 1, 1) := dOf oX9_item_0 10 rfl
theorem dX9_item_21 : decode cX9_item 21 = .ok (.aaload, 1) := dOf oX9_item_0 11 rfl
theorem dX9_item_22 : decode cX9_item 22 = .ok (.astore 5, 2) := dOf oX9_item_0 12 rfl
theorem dX9_item_24 : decode cX9_item 24 = .ok (.aload 5, 2) := dOf oX9_item_0 13 rfl
theorem dX9_item_26 : decode cX9_item 26 = .ok (.iload_n 2, 1) := dOf oX9_item_0 14 rfl
theorem dX9_item_27 : decode cX9_item 27 = .ok (.invokevirtual 111, 3) := dOf oX9_item_0 15 rfl
theorem dX9_item_30 : decode cX9_item 30 = .ok (.istore 6, 2) := dOf oX9_item_0 16 rfl
theorem dX9_item_32 : decode cX9_item 32 = .ok (.iload 6, 2) := dOf oX9_item_0 17 rfl
theorem dX9_item_34 : decode cX9_item 34 = .ok (.ifCond .eq 6, 3) := dOf oX9_item_0 18 rfl
theorem dX9_item_37 : decode cX9_item 37 = .ok (.iload 6, 2) := dOf oX9_item_0 19 rfl
theorem dX9_item_39 : decode cX9_item 39 = .ok (.ireturn, 1) := dOf oX9_item_0 20 rfl
theorem dX9_item_40 : decode cX9_item 40 = .ok (.aload 5, 2) := dOf oX9_item_0 21 rfl
theorem dX9_item_42 : decode cX9_item 42 = .ok (.iload_n 3, 1) := dOf oX9_item_0 22 rfl
theorem dX9_item_43 : decode cX9_item 43 = .ok (.iconst 1, 1) := dOf oX9_item_0 23 rfl
theorem dX9_item_44 : decode cX9_item 44 = .ok (.invokevirtual 115, 3) := dOf oX9_item_0 24 rfl
theorem dX9_item_47 : decode cX9_item 47 = .ok (.ifCond .ne 6, 3) := dOf oX9_item_0 25 rfl
theorem dX9_item_50 : decode cX9_item 50 = .ok (.bipush (-13), 2) := dOf oX9_item_0 26 rfl
theorem dX9_item_52 : decode cX9_item 52 = .ok (.ireturn, 1) := dOf oX9_item_0 27 rfl
theorem dX9_item_53 : decode cX9_item 53 = .ok (.aload 5, 2) := dOf oX9_item_0 28 rfl
theorem dX9_item_55 : decode cX9_item 55 = .ok (.iload_n 3, 1) := dOf oX9_item_0 29 rfl
theorem dX9_item_56 : decode cX9_item 56 = .ok (.iload 4, 2) := dOf oX9_item_0 30 rfl
theorem dX9_item_58 : decode cX9_item 58 = .ok (.invokevirtual 232, 3) := dOf oX9_item_0 31 rfl
theorem dX9_item_61 : decode cX9_item 61 = .ok (.iconst 1, 1) := dOf oX9_item_0 32 rfl
theorem dX9_item_62 : decode cX9_item 62 = .ok (.ireturn, 1) := dOf oX9_item_0 33 rfl
def eX9_put_0 : List (Nat × Instr × Nat) := [(0, .aload_n 0, 1), (1, .iload_n 1, 1), (2, .invokevirtual 122, 3), (5, .ifCond .eq 25, 3), (8, .iload_n 2, 1), (9, .invokestatic 134, 3), (12, .ifCond .eq 18, 3), (15, .iload_n 3, 1), (16, .invokestatic 105, 3), (19, .ifCond .eq 11, 3), (22, .iload 4, 2), (24, .invokestatic 108, 3), (27, .ifCond .ne 5, 3), (30, .iconst (-1), 1), (31, .ireturn, 1), (32, .aload_n 0, 1), (33, .getfield 77, 3), (36, .iload_n 3, 1), (37, .aaload, 1), (38, .astore 6, 2), (40, .aload 6, 2), (42, .iload 4, 2), (44, .invokevirtual 111, 3), (47, .istore 7, 2), (49, .iload 7, 2), (51, .ifCond .eq 6, 3), (54, .iload 7, 2), (56, .ireturn, 1), (57, .aload_n 0, 1), (58, .getfield 18, 3), (61, .invokevirtual 102, 3), (64, .aload_n 0, 1), (65, .getfield 23, 3), (68, .iload_n 1, 1), (69, .aaload, 1), (70, .iload_n 2, 1), (71, .aload_n 0, 1), (72, .getfield 18, 3), (75, .invokevirtual 137, 3), (78, .ifCond .ne 6, 3), (81, .bipush (-4), 2), (83, .ireturn, 1), (84, .aload 6, 2), (86, .iload 5, 2), (88, .aload_n 0, 1), (89, .getfield 18, 3), (92, .getfield 92, 3), (95, .invokevirtual 115, 3), (98, .ifCond .ne 6, 3), (101, .bipush (-13), 2), (103, .ireturn, 1), (104, .iconst 0, 1), (105, .istore 8, 2), (107, .iload 8, 2), (109, .aload_n 0, 1), (110, .getfield 18, 3), (113, .getfield 92, 3), (116, .if_icmp .ge 29, 3), (119, .aload 6, 2), (121, .iload 5, 2)]
theorem oX9_put_0 : okC cX9_put eX9_put_0 = true := by decide +kernel
theorem dX9_put_0 : decode cX9_put 0 = .ok (.aload_n 0, 1) := dOf oX9_put_0 0 rfl
theorem dX9_put_1 : decode cX9_put 1 = .ok (.iload_n 1, 1) := dOf oX9_put_0 1 rfl
theorem dX9_put_2 : decode cX9_put 2 = .ok (.invokevirtual 122, 3) := dOf oX9_put_0 2 rfl
theorem dX9_put_5 : decode cX9_put 5 = .ok (.ifCond .eq 25, 3) := dOf oX9_put_0 3 rfl
theorem dX9_put_8 : decode cX9_put 8 = .ok (.iload_n 2, 1) := dOf oX9_put_0 4 rfl
theorem dX9_put_9 : decode cX9_put 9 = .ok (.invokestatic 134, 3) := dOf oX9_put_0 5 rfl
theorem dX9_put_12 : decode cX9_put 12 = .ok (.ifCond .eq 18, 3) := dOf oX9_put_0 6 rfl
theorem dX9_put_15 : decode cX9_put 15 = .ok (.iload_n 3, 1) := dOf oX9_put_0 7 rfl
theorem dX9_put_16 : decode cX9_put 16 = .ok (.invokestatic 105, 3) := dOf oX9_put_0 8 rfl
theorem dX9_put_19 : decode cX9_put 19 = .ok (.ifCond .eq 11, 3) := dOf oX9_put_0 9 rfl
theorem dX9_put_22 : decode cX9_put 22 = .ok (.iload 4, 2) := dOf oX9_put_0 10 rfl
theorem dX9_put_24 : decode cX9_put 24 = .ok (.invokestatic 108, 3) := dOf oX9_put_0 11 rfl
theorem dX9_put_27 : decode cX9_put 27 = .ok (.ifCond .ne 5, 3) := dOf oX9_put_0 12 rfl
theorem dX9_put_30 : decode cX9_put 30 = .ok (.iconst (-1), 1) := dOf oX9_put_0 13 rfl
theorem dX9_put_31 : decode cX9_put 31 = .ok (.ireturn, 1) := dOf oX9_put_0 14 rfl
theorem dX9_put_32 : decode cX9_put 32 = .ok (.aload_n 0, 1) := dOf oX9_put_0 15 rfl
theorem dX9_put_33 : decode cX9_put 33 = .ok (.getfield 77, 3) := dOf oX9_put_0 16 rfl
theorem dX9_put_36 : decode cX9_put 36 = .ok (.iload_n 3, 1) := dOf oX9_put_0 17 rfl
theorem dX9_put_37 : decode cX9_put 37 = .ok (.aaload, 1) := dOf oX9_put_0 18 rfl
theorem dX9_put_38 : decode cX9_put 38 = .ok (.astore 6, 2) := dOf oX9_put_0 19 rfl
theorem dX9_put_40 : decode cX9_put 40 = .ok (.aload 6, 2) := dOf oX9_put_0 20 rfl
theorem dX9_put_42 : decode cX9_put 42 = .ok (.iload 4, 2) := dOf oX9_put_0 21 rfl
theorem dX9_put_44 : decode cX9_put 44 = .ok (.invokevirtual 111, 3) := dOf oX9_put_0 22 rfl
theorem dX9_put_47 : decode cX9_put 47 = .ok (.istore 7, 2) := dOf oX9_put_0 23 rfl
theorem dX9_put_49 : decode cX9_put 49 = .ok (.iload 7, 2) := dOf oX9_put_0 24 rfl
theorem dX9_put_51 : decode cX9_put 51 = .ok (.ifCond .eq 6, 3) := dOf oX9_put_0 25 rfl
theorem dX9_put_54 : decode cX9_put 54 = .ok (.iload 7, 2) := dOf oX9_put_0 26 rfl
theorem dX9_put_56 : decode cX9_put 56 = .ok (.ireturn, 1) := dOf oX9_put_0 27 rfl
theorem dX9_put_57 : decode cX9_put 57 = .ok (.aload_n 0, 1) := dOf oX9_put_0 28 rfl
theorem dX9_put_58 : decode cX9_put 58 = .ok (.getfield 18, 3) := dOf oX9_put_0 29 rfl
theorem dX9_put_61 : decode cX9_put 61 = .ok (.invokevirtual 102, 3) := dOf oX9_put_0 30 rfl
theorem dX9_put_64 : decode cX9_put 64 = .ok (.aload_n 0, 1) := dOf oX9_put_0 31 rfl
theorem dX9_put_65 : decode cX9_put 65 = .ok (.getfield 23, 3) := dOf oX9_put_0 32 rfl
theorem dX9_put_68 : decode cX9_put 68 = .ok (.iload_n 1, 1) := dOf oX9_put_0 33 rfl
theorem dX9_put_69 : decode cX9_put 69 = .ok (.aaload, 1) := dOf oX9_put_0 34 rfl
theorem dX9_put_70 : decode cX9_put 70 = .ok (.iload_n 2, 1) := dOf oX9_put_0 35 rfl
theorem dX9_put_71 : decode cX9_put 71 = .ok (.aload_n 0, 1) := dOf oX9_put_0 36 rfl
theorem dX9_put_72 : decode cX9_put 72 = .ok (.getfield 18, 3) := dOf oX9_put_0 37 rfl
theorem dX9_put_75 : decode cX9_put 75 = .ok (.invokevirtual 137, 3) := dOf oX9_put_0 38 rfl
theorem dX9_put_78 : decode cX9_put 78 = .ok (.ifCond .ne 6, 3) := dOf oX9_put_0 39 rfl
theorem dX9_put_81 : decode cX9_put 81 = .ok (.bipush (-4), 2) := dOf oX9_put_0 40 rfl
theorem dX9_put_83 : decode cX9_put 83 = .ok (.ireturn, 1) := dOf oX9_put_0 41 rfl
theorem dX9_put_84 : decode cX9_put 84 = .ok (.aload 6, 2) := dOf oX9_put_0 42 rfl
theorem dX9_put_86 : decode cX9_put 86 = .ok (.iload 5, 2) := dOf oX9_put_0 43 rfl
theorem dX9_put_88 : decode cX9_put 88 = .ok (.aload_n 0, 1) := dOf oX9_put_0 44 rfl
theorem dX9_put_89 : decode cX9_put 89 = .ok (.getfield 18, 3) := dOf oX9_put_0 45 rfl
theorem dX9_put_92 : decode cX9_put 92 = .ok (.getfield 92, 3) := dOf oX9_put_0 46 rfl
theorem dX9_put_95 : decode cX9_put 95 = .ok (.invokevirtual 115, 3) := dOf oX9_put_0 47 rfl
theorem dX9_put_98 : decode cX9_put 98 = .ok (.ifCond .ne 6, 3) := dOf oX9_put_0 48 rfl
theorem dX9_put_101 : decode cX9_put 101 = .ok (.bipush (-13), 2) := dOf oX9_put_0 49 rfl
theorem dX9_put_103 : decode cX9_put 103 = .ok (.ireturn, 1) := dOf oX9_put_0 50 rfl
theorem dX9_put_104 : decode cX9_put 104 = .ok (.iconst 0, 1) := dOf oX9_put_0 51 rfl
theorem dX9_put_105 : decode cX9_put 105 = .ok (.istore 8, 2) := dOf oX9_put_0 52 rfl
theorem dX9_put_107 : decode cX9_put 107 = .ok (.iload 8, 2) := dOf oX9_put_0 53 rfl
theorem dX9_put_109 : decode cX9_put 109 = .ok (.aload_n 0, 1) := dOf oX9_put_0 54 rfl
theorem dX9_put_110 : decode cX9_put 110 = .ok (.getfield 18, 3) := dOf oX9_put_0 55 rfl
theorem dX9_put_113 : decode cX9_put 113 = .ok (.getfield 92, 3) := dOf oX9_put_0 56 rfl
theorem dX9_put_116 : decode cX9_put 116 = .ok (.if_icmp .ge 29, 3) := dOf oX9_put_0 57 rfl
theorem dX9_put_119 : decode cX9_put 119 = .ok (.aload 6, 2) := dOf oX9_put_0 58 rfl
theorem dX9_put_121 : decode cX9_put 121 = .ok (.iload 5, 2) := dOf oX9_put_0 59 rfl
def eX9_put_1 : List (Nat × Instr × Nat) := [(123, .iload 8, 2), (125, .iadd, 1), (126, .aload_n 0, 1), (127, .getfield 18, 3), (130, .getfield 235, 3), (133, .iload 8, 2), (135, .baload, 1), (136, .invokevirtual 232, 3), (139, .iinc 8 1, 3), (142, .goto (-35), 3), (145, .aload_n 0, 1), (146, .getfield 18, 3), (149, .getfield 92, 3), (152, .ireturn, 1)]
theorem oX9_put_1 : okC cX9_put eX9_put_1 = true := by decide +kernel
theorem dX9_put_123 : decode cX9_put 123 = .ok (.iload 8, 2) := dOf oX9_put_1 0 rfl
theorem dX9_put_125 : decode cX9_put 125 = .ok (.iadd, 1) := dOf oX9_put_1 1 rfl
theorem dX9_put_126 : decode cX9_put 126 = .ok (.aload_n 0, 1) := dOf oX9_put_1 2 rfl
theorem dX9_put_127 : decode cX9_put 127 = .ok (.getfield 18, 3) := dOf oX9_put_1 3 rfl
theorem dX9_put_130 : decode cX9_put 130 = .ok (.getfield 235, 3) := dOf oX9_put_1 4 rfl
theorem dX9_put_133 : decode cX9_put 133 = .ok (.iload 8, 2) := dOf oX9_put_1 5 rfl
theorem dX9_put_135 : decode cX9_put 135 = .ok (.baload, 1) := dOf oX9_put_1 6 rfl
theorem dX9_put_136 : decode cX9_put 136 = .ok (.invokevirtual 232, 3) := dOf oX9_put_1 7 rfl
theorem dX9_put_139 : decode cX9_put 139 = .ok (.iinc 8 1, 3) := dOf oX9_put_1 8 rfl
theorem dX9_put_142 : decode cX9_put 142 = .ok (.goto (-35), 3) := dOf oX9_put_1 9 rfl
theorem dX9_put_145 : decode cX9_put 145 = .ok (.aload_n 0, 1) := dOf oX9_put_1 10 rfl
theorem dX9_put_146 : decode cX9_put 146 = .ok (.getfield 18, 3) := dOf oX9_put_1 11 rfl
theorem dX9_put_149 : decode cX9_put 149 = .ok (.getfield 92, 3) := dOf oX9_put_1 12 rfl
theorem dX9_put_152 : decode cX9_put 152 = .ok (.ireturn, 1) := dOf oX9_put_1 13 rfl
def eX9_isThing_0 : List (Nat × Instr × Nat) := [(0, .iload_n 1, 1), (1, .ifCond .lt 15, 3), (4, .iload_n 1, 1), (5, .aload_n 0, 1), (6, .getfield 27, 3), (9, .if_icmp .ge 7, 3), (12, .iconst 1, 1), (13, .goto 4, 3), (16, .iconst 0, 1), (17, .ireturn, 1)]
theorem oX9_isThing_0 : okC cX9_isThing eX9_isThing_0 = true := by decide +kernel
theorem dX9_isThing_0 : decode cX9_isThing 0 = .ok (.iload_n 1, 1) := dOf oX9_isThing_0 0 rfl
theorem dX9_isThing_1 : decode cX9_isThing 1 = .ok (.ifCond .lt 15, 3) := dOf oX9_isThing_0 1 rfl
theorem dX9_isThing_4 : decode cX9_isThing 4 = .ok (.iload_n 1, 1) := dOf oX9_isThing_0 2 rfl
theorem dX9_isThing_5 : decode cX9_isThing 5 = .ok (.aload_n 0, 1) := dOf oX9_isThing_0 3 rfl
theorem dX9_isThing_6 : decode cX9_isThing 6 = .ok (.getfield 27, 3) := dOf oX9_isThing_0 4 rfl
theorem dX9_isThing_9 : decode cX9_isThing 9 = .ok (.if_icmp .ge 7, 3) := dOf oX9_isThing_0 5 rfl
theorem dX9_isThing_12 : decode cX9_isThing 12 = .ok (.iconst 1, 1) := dOf oX9_isThing_0 6 rfl
theorem dX9_isThing_13 : decode cX9_isThing 13 = .ok (.goto 4, 3) := dOf oX9_isThing_0 7 rfl
theorem dX9_isThing_16 : decode cX9_isThing 16 = .ok (.iconst 0, 1) := dOf oX9_isThing_0 8 rfl
theorem dX9_isThing_17 : decode cX9_isThing 17 = .ok (.ireturn, 1) := dOf oX9_isThing_0 9 rfl
def eX9_isProgram_0 : List (Nat × Instr × Nat) := [(0, .iload_n 1, 1), (1, .ifCond .lt 15, 3), (4, .iload_n 1, 1), (5, .aload_n 0, 1), (6, .getfield 65, 3), (9, .if_icmp .ge 7, 3), (12, .iconst 1, 1), (13, .goto 4, 3), (16, .iconst 0, 1), (17, .ireturn, 1)]
theorem oX9_isProgram_0 : okC cX9_isProgram eX9_isProgram_0 = true := by decide +kernel
theorem dX9_isProgram_0 : decode cX9_isProgram 0 = .ok (.iload_n 1, 1) := dOf oX9_isProgram_0 0 rfl
theorem dX9_isProgram_1 : decode cX9_isProgram 1 = .ok (.ifCond .lt 15, 3) := dOf oX9_isProgram_0 1 rfl
theorem dX9_isProgram_4 : decode cX9_isProgram 4 = .ok (.iload_n 1, 1) := dOf oX9_isProgram_0 2 rfl
theorem dX9_isProgram_5 : decode cX9_isProgram 5 = .ok (.aload_n 0, 1) := dOf oX9_isProgram_0 3 rfl
theorem dX9_isProgram_6 : decode cX9_isProgram 6 = .ok (.getfield 65, 3) := dOf oX9_isProgram_0 4 rfl
theorem dX9_isProgram_9 : decode cX9_isProgram 9 = .ok (.if_icmp .ge 7, 3) := dOf oX9_isProgram_0 5 rfl
theorem dX9_isProgram_12 : decode cX9_isProgram 12 = .ok (.iconst 1, 1) := dOf oX9_isProgram_0 6 rfl
theorem dX9_isProgram_13 : decode cX9_isProgram 13 = .ok (.goto 4, 3) := dOf oX9_isProgram_0 7 rfl
theorem dX9_isProgram_16 : decode cX9_isProgram 16 = .ok (.iconst 0, 1) := dOf oX9_isProgram_0 8 rfl
theorem dX9_isProgram_17 : decode cX9_isProgram 17 = .ok (.ireturn, 1) := dOf oX9_isProgram_0 9 rfl
def eX9_isCut_0 : List (Nat × Instr × Nat) := [(0, .iload_n 0, 1), (1, .ifCond .lt 14, 3), (4, .iload_n 0, 1), (5, .sipush 4800, 3), (8, .if_icmp .ge 7, 3), (11, .iconst 1, 1), (12, .goto 4, 3), (15, .iconst 0, 1), (16, .ireturn, 1)]
theorem oX9_isCut_0 : okC cX9_isCut eX9_isCut_0 = true := by decide +kernel
theorem dX9_isCut_0 : decode cX9_isCut 0 = .ok (.iload_n 0, 1) := dOf oX9_isCut_0 0 rfl
theorem dX9_isCut_1 : decode cX9_isCut 1 = .ok (.ifCond .lt 14, 3) := dOf oX9_isCut_0 1 rfl
theorem dX9_isCut_4 : decode cX9_isCut 4 = .ok (.iload_n 0, 1) := dOf oX9_isCut_0 2 rfl
theorem dX9_isCut_5 : decode cX9_isCut 5 = .ok (.sipush 4800, 3) := dOf oX9_isCut_0 3 rfl
theorem dX9_isCut_8 : decode cX9_isCut 8 = .ok (.if_icmp .ge 7, 3) := dOf oX9_isCut_0 4 rfl
theorem dX9_isCut_11 : decode cX9_isCut 11 = .ok (.iconst 1, 1) := dOf oX9_isCut_0 5 rfl
theorem dX9_isCut_12 : decode cX9_isCut 12 = .ok (.goto 4, 3) := dOf oX9_isCut_0 6 rfl
theorem dX9_isCut_15 : decode cX9_isCut 15 = .ok (.iconst 0, 1) := dOf oX9_isCut_0 7 rfl
theorem dX9_isCut_16 : decode cX9_isCut 16 = .ok (.ireturn, 1) := dOf oX9_isCut_0 8 rfl
def eX9_isSheet_0 : List (Nat × Instr × Nat) := [(0, .iload_n 0, 1), (1, .ifCond .lt 12, 3), (4, .iload_n 0, 1), (5, .iconst 4, 1), (6, .if_icmp .ge 7, 3), (9, .iconst 1, 1), (10, .goto 4, 3), (13, .iconst 0, 1), (14, .ireturn, 1)]
theorem oX9_isSheet_0 : okC cX9_isSheet eX9_isSheet_0 = true := by decide +kernel
theorem dX9_isSheet_0 : decode cX9_isSheet 0 = .ok (.iload_n 0, 1) := dOf oX9_isSheet_0 0 rfl
theorem dX9_isSheet_1 : decode cX9_isSheet 1 = .ok (.ifCond .lt 12, 3) := dOf oX9_isSheet_0 1 rfl
theorem dX9_isSheet_4 : decode cX9_isSheet 4 = .ok (.iload_n 0, 1) := dOf oX9_isSheet_0 2 rfl
theorem dX9_isSheet_5 : decode cX9_isSheet 5 = .ok (.iconst 4, 1) := dOf oX9_isSheet_0 3 rfl
theorem dX9_isSheet_6 : decode cX9_isSheet 6 = .ok (.if_icmp .ge 7, 3) := dOf oX9_isSheet_0 4 rfl
theorem dX9_isSheet_9 : decode cX9_isSheet 9 = .ok (.iconst 1, 1) := dOf oX9_isSheet_0 5 rfl
theorem dX9_isSheet_10 : decode cX9_isSheet 10 = .ok (.goto 4, 3) := dOf oX9_isSheet_0 6 rfl
theorem dX9_isSheet_13 : decode cX9_isSheet 13 = .ok (.iconst 0, 1) := dOf oX9_isSheet_0 7 rfl
theorem dX9_isSheet_14 : decode cX9_isSheet 14 = .ok (.ireturn, 1) := dOf oX9_isSheet_0 8 rfl
def eX9_isLane_0 : List (Nat × Instr × Nat) := [(0, .iload_n 0, 1), (1, .ifCond .lt 12, 3), (4, .iload_n 0, 1), (5, .iconst 3, 1), (6, .if_icmp .ge 7, 3), (9, .iconst 1, 1), (10, .goto 4, 3), (13, .iconst 0, 1), (14, .ireturn, 1)]
theorem oX9_isLane_0 : okC cX9_isLane eX9_isLane_0 = true := by decide +kernel
theorem dX9_isLane_0 : decode cX9_isLane 0 = .ok (.iload_n 0, 1) := dOf oX9_isLane_0 0 rfl
theorem dX9_isLane_1 : decode cX9_isLane 1 = .ok (.ifCond .lt 12, 3) := dOf oX9_isLane_0 1 rfl
theorem dX9_isLane_4 : decode cX9_isLane 4 = .ok (.iload_n 0, 1) := dOf oX9_isLane_0 2 rfl
theorem dX9_isLane_5 : decode cX9_isLane 5 = .ok (.iconst 3, 1) := dOf oX9_isLane_0 3 rfl
theorem dX9_isLane_6 : decode cX9_isLane 6 = .ok (.if_icmp .ge 7, 3) := dOf oX9_isLane_0 4 rfl
theorem dX9_isLane_9 : decode cX9_isLane 9 = .ok (.iconst 1, 1) := dOf oX9_isLane_0 5 rfl
theorem dX9_isLane_10 : decode cX9_isLane 10 = .ok (.goto 4, 3) := dOf oX9_isLane_0 6 rfl
theorem dX9_isLane_13 : decode cX9_isLane 13 = .ok (.iconst 0, 1) := dOf oX9_isLane_0 7 rfl
theorem dX9_isLane_14 : decode cX9_isLane 14 = .ok (.ireturn, 1) := dOf oX9_isLane_0 8 rfl
def eX9_isLineByte_0 : List (Nat × Instr × Nat) := [(0, .iload_n 0, 1), (1, .bipush 32, 2), (3, .if_icmp .lt 13, 3), (6, .iload_n 0, 1), (7, .bipush 126, 2), (9, .if_icmp .gt 7, 3), (12, .iconst 1, 1), (13, .goto 4, 3), (16, .iconst 0, 1), (17, .ireturn, 1)]
theorem oX9_isLineByte_0 : okC cX9_isLineByte eX9_isLineByte_0 = true := by decide +kernel
theorem dX9_isLineByte_0 : decode cX9_isLineByte 0 = .ok (.iload_n 0, 1) := dOf oX9_isLineByte_0 0 rfl
theorem dX9_isLineByte_1 : decode cX9_isLineByte 1 = .ok (.bipush 32, 2) := dOf oX9_isLineByte_0 1 rfl
theorem dX9_isLineByte_3 : decode cX9_isLineByte 3 = .ok (.if_icmp .lt 13, 3) := dOf oX9_isLineByte_0 2 rfl
theorem dX9_isLineByte_6 : decode cX9_isLineByte 6 = .ok (.iload_n 0, 1) := dOf oX9_isLineByte_0 3 rfl
theorem dX9_isLineByte_7 : decode cX9_isLineByte 7 = .ok (.bipush 126, 2) := dOf oX9_isLineByte_0 4 rfl
theorem dX9_isLineByte_9 : decode cX9_isLineByte 9 = .ok (.if_icmp .gt 7, 3) := dOf oX9_isLineByte_0 5 rfl
theorem dX9_isLineByte_12 : decode cX9_isLineByte 12 = .ok (.iconst 1, 1) := dOf oX9_isLineByte_0 6 rfl
theorem dX9_isLineByte_13 : decode cX9_isLineByte 13 = .ok (.goto 4, 3) := dOf oX9_isLineByte_0 7 rfl
theorem dX9_isLineByte_16 : decode cX9_isLineByte 16 = .ok (.iconst 0, 1) := dOf oX9_isLineByte_0 8 rfl
theorem dX9_isLineByte_17 : decode cX9_isLineByte 17 = .ok (.ireturn, 1) := dOf oX9_isLineByte_0 9 rfl
def eX9_byteOf_0 : List (Nat × Instr × Nat) := [(0, .lload_n 0, 1), (1, .bipush 8, 2), (3, .iload_n 2, 1), (4, .imul, 1), (5, .lushr, 1), (6, .l2i, 1), (7, .sipush 255, 3), (10, .iand, 1), (11, .ireturn, 1)]
theorem oX9_byteOf_0 : okC cX9_byteOf eX9_byteOf_0 = true := by decide +kernel
theorem dX9_byteOf_0 : decode cX9_byteOf 0 = .ok (.lload_n 0, 1) := dOf oX9_byteOf_0 0 rfl
theorem dX9_byteOf_1 : decode cX9_byteOf 1 = .ok (.bipush 8, 2) := dOf oX9_byteOf_0 1 rfl
theorem dX9_byteOf_3 : decode cX9_byteOf 3 = .ok (.iload_n 2, 1) := dOf oX9_byteOf_0 2 rfl
theorem dX9_byteOf_4 : decode cX9_byteOf 4 = .ok (.imul, 1) := dOf oX9_byteOf_0 3 rfl
theorem dX9_byteOf_5 : decode cX9_byteOf 5 = .ok (.lushr, 1) := dOf oX9_byteOf_0 4 rfl
theorem dX9_byteOf_6 : decode cX9_byteOf 6 = .ok (.l2i, 1) := dOf oX9_byteOf_0 5 rfl
theorem dX9_byteOf_7 : decode cX9_byteOf 7 = .ok (.sipush 255, 3) := dOf oX9_byteOf_0 6 rfl
theorem dX9_byteOf_10 : decode cX9_byteOf 10 = .ok (.iand, 1) := dOf oX9_byteOf_0 7 rfl
theorem dX9_byteOf_11 : decode cX9_byteOf 11 = .ok (.ireturn, 1) := dOf oX9_byteOf_0 8 rfl
def eX9_addThing_0 : List (Nat × Instr × Nat) := [(0, .aload_n 0, 1), (1, .getfield 27, 3), (4, .bipush 12, 2), (6, .if_icmp .lt 6, 3), (9, .bipush (-3), 2), (11, .ireturn, 1), (12, .aload_n 0, 1), (13, .getfield 23, 3), (16, .aload_n 0, 1), (17, .getfield 27, 3), (20, .aaload, 1), (21, .astore_n 2, 1), (22, .aload_n 2, 1), (23, .getfield 125, 3), (26, .aload_n 1, 1), (27, .invokevirtual 239, 3), (30, .aload_n 2, 1), (31, .invokevirtual 243, 3), (34, .aload_n 0, 1), (35, .dup, 1), (36, .getfield 27, 3), (39, .iconst 1, 1), (40, .iadd, 1), (41, .putfield 27, 3), (44, .aload_n 0, 1), (45, .getfield 27, 3), (48, .iconst 1, 1), (49, .isub, 1), (50, .ireturn, 1)]
theorem oX9_addThing_0 : okC cX9_addThing eX9_addThing_0 = true := by decide +kernel
theorem dX9_addThing_0 : decode cX9_addThing 0 = .ok (.aload_n 0, 1) := dOf oX9_addThing_0 0 rfl
theorem dX9_addThing_1 : decode cX9_addThing 1 = .ok (.getfield 27, 3) := dOf oX9_addThing_0 1 rfl
theorem dX9_addThing_4 : decode cX9_addThing 4 = .ok (.bipush 12, 2) := dOf oX9_addThing_0 2 rfl
theorem dX9_addThing_6 : decode cX9_addThing 6 = .ok (.if_icmp .lt 6, 3) := dOf oX9_addThing_0 3 rfl
theorem dX9_addThing_9 : decode cX9_addThing 9 = .ok (.bipush (-3), 2) := dOf oX9_addThing_0 4 rfl
theorem dX9_addThing_11 : decode cX9_addThing 11 = .ok (.ireturn, 1) := dOf oX9_addThing_0 5 rfl
theorem dX9_addThing_12 : decode cX9_addThing 12 = .ok (.aload_n 0, 1) := dOf oX9_addThing_0 6 rfl
theorem dX9_addThing_13 : decode cX9_addThing 13 = .ok (.getfield 23, 3) := dOf oX9_addThing_0 7 rfl
theorem dX9_addThing_16 : decode cX9_addThing 16 = .ok (.aload_n 0, 1) := dOf oX9_addThing_0 8 rfl
theorem dX9_addThing_17 : decode cX9_addThing 17 = .ok (.getfield 27, 3) := dOf oX9_addThing_0 9 rfl
theorem dX9_addThing_20 : decode cX9_addThing 20 = .ok (.aaload, 1) := dOf oX9_addThing_0 10 rfl
theorem dX9_addThing_21 : decode cX9_addThing 21 = .ok (.astore_n 2, 1) := dOf oX9_addThing_0 11 rfl
theorem dX9_addThing_22 : decode cX9_addThing 22 = .ok (.aload_n 2, 1) := dOf oX9_addThing_0 12 rfl
theorem dX9_addThing_23 : decode cX9_addThing 23 = .ok (.getfield 125, 3) := dOf oX9_addThing_0 13 rfl
theorem dX9_addThing_26 : decode cX9_addThing 26 = .ok (.aload_n 1, 1) := dOf oX9_addThing_0 14 rfl
theorem dX9_addThing_27 : decode cX9_addThing 27 = .ok (.invokevirtual 239, 3) := dOf oX9_addThing_0 15 rfl
theorem dX9_addThing_30 : decode cX9_addThing 30 = .ok (.aload_n 2, 1) := dOf oX9_addThing_0 16 rfl
theorem dX9_addThing_31 : decode cX9_addThing 31 = .ok (.invokevirtual 243, 3) := dOf oX9_addThing_0 17 rfl
theorem dX9_addThing_34 : decode cX9_addThing 34 = .ok (.aload_n 0, 1) := dOf oX9_addThing_0 18 rfl
theorem dX9_addThing_35 : decode cX9_addThing 35 = .ok (.dup, 1) := dOf oX9_addThing_0 19 rfl
theorem dX9_addThing_36 : decode cX9_addThing 36 = .ok (.getfield 27, 3) := dOf oX9_addThing_0 20 rfl
theorem dX9_addThing_39 : decode cX9_addThing 39 = .ok (.iconst 1, 1) := dOf oX9_addThing_0 21 rfl
theorem dX9_addThing_40 : decode cX9_addThing 40 = .ok (.iadd, 1) := dOf oX9_addThing_0 22 rfl
theorem dX9_addThing_41 : decode cX9_addThing 41 = .ok (.putfield 27, 3) := dOf oX9_addThing_0 23 rfl
theorem dX9_addThing_44 : decode cX9_addThing 44 = .ok (.aload_n 0, 1) := dOf oX9_addThing_0 24 rfl
theorem dX9_addThing_45 : decode cX9_addThing 45 = .ok (.getfield 27, 3) := dOf oX9_addThing_0 25 rfl
theorem dX9_addThing_48 : decode cX9_addThing 48 = .ok (.iconst 1, 1) := dOf oX9_addThing_0 26 rfl
theorem dX9_addThing_49 : decode cX9_addThing 49 = .ok (.isub, 1) := dOf oX9_addThing_0 27 rfl
theorem dX9_addThing_50 : decode cX9_addThing 50 = .ok (.ireturn, 1) := dOf oX9_addThing_0 28 rfl
def eX9_showTapeOf_0 : List (Nat × Instr × Nat) := [(0, .aload_n 0, 1), (1, .getfield 14, 3), (4, .getfield 92, 3), (7, .iconst 1, 1), (8, .if_icmp .lt 15, 3), (11, .aload_n 0, 1), (12, .getfield 14, 3), (15, .getfield 92, 3), (18, .bipush 12, 2), (20, .if_icmp .le 6, 3), (23, .bipush (-2), 2), (25, .ireturn, 1), (26, .aload_n 1, 1), (27, .getfield 145, 3), (30, .iconst 1, 1), (31, .if_icmp .eq 15, 3), (34, .aload_n 0, 1), (35, .iconst 1, 1), (36, .invokevirtual 151, 3), (39, .iconst 4, 1), (40, .if_icmp .lt 6, 3), (43, .bipush (-3), 2), (45, .ireturn, 1), (46, .aload_n 1, 1), (47, .getfield 199, 3), (50, .aload_n 0, 1), (51, .getfield 14, 3), (54, .invokevirtual 239, 3), (57, .aload_n 1, 1), (58, .iconst 1, 1), (59, .putfield 145, 3), (62, .aload_n 1, 1), (63, .invokevirtual 246, 3), (66, .aload_n 0, 1), (67, .invokevirtual 148, 3), (70, .aload_n 0, 1), (71, .iconst 1, 1), (72, .invokevirtual 151, 3), (75, .ireturn, 1)]
theorem oX9_showTapeOf_0 : okC cX9_showTapeOf eX9_showTapeOf_0 = true := by decide +kernel
theorem dX9_showTapeOf_0 : decode cX9_showTapeOf 0 = .ok (.aload_n 0, 1) := dOf oX9_showTapeOf_0 0 rfl
theorem dX9_showTapeOf_1 : decode cX9_showTapeOf 1 = .ok (.getfield 14, 3) := dOf oX9_showTapeOf_0 1 rfl
theorem dX9_showTapeOf_4 : decode cX9_showTapeOf 4 = .ok (.getfield 92, 3) := dOf oX9_showTapeOf_0 2 rfl
theorem dX9_showTapeOf_7 : decode cX9_showTapeOf 7 = .ok (.iconst 1, 1) := dOf oX9_showTapeOf_0 3 rfl
theorem dX9_showTapeOf_8 : decode cX9_showTapeOf 8 = .ok (.if_icmp .lt 15, 3) := dOf oX9_showTapeOf_0 4 rfl
theorem dX9_showTapeOf_11 : decode cX9_showTapeOf 11 = .ok (.aload_n 0, 1) := dOf oX9_showTapeOf_0 5 rfl
theorem dX9_showTapeOf_12 : decode cX9_showTapeOf 12 = .ok (.getfield 14, 3) := dOf oX9_showTapeOf_0 6 rfl
theorem dX9_showTapeOf_15 : decode cX9_showTapeOf 15 = .ok (.getfield 92, 3) := dOf oX9_showTapeOf_0 7 rfl
theorem dX9_showTapeOf_18 : decode cX9_showTapeOf 18 = .ok (.bipush 12, 2) := dOf oX9_showTapeOf_0 8 rfl
theorem dX9_showTapeOf_20 : decode cX9_showTapeOf 20 = .ok (.if_icmp .le 6, 3) := dOf oX9_showTapeOf_0 9 rfl
theorem dX9_showTapeOf_23 : decode cX9_showTapeOf 23 = .ok (.bipush (-2), 2) := dOf oX9_showTapeOf_0 10 rfl
theorem dX9_showTapeOf_25 : decode cX9_showTapeOf 25 = .ok (.ireturn, 1) := dOf oX9_showTapeOf_0 11 rfl
theorem dX9_showTapeOf_26 : decode cX9_showTapeOf 26 = .ok (.aload_n 1, 1) := dOf oX9_showTapeOf_0 12 rfl
theorem dX9_showTapeOf_27 : decode cX9_showTapeOf 27 = .ok (.getfield 145, 3) := dOf oX9_showTapeOf_0 13 rfl
theorem dX9_showTapeOf_30 : decode cX9_showTapeOf 30 = .ok (.iconst 1, 1) := dOf oX9_showTapeOf_0 14 rfl
theorem dX9_showTapeOf_31 : decode cX9_showTapeOf 31 = .ok (.if_icmp .eq 15, 3) := dOf oX9_showTapeOf_0 15 rfl
theorem dX9_showTapeOf_34 : decode cX9_showTapeOf 34 = .ok (.aload_n 0, 1) := dOf oX9_showTapeOf_0 16 rfl
theorem dX9_showTapeOf_35 : decode cX9_showTapeOf 35 = .ok (.iconst 1, 1) := dOf oX9_showTapeOf_0 17 rfl
theorem dX9_showTapeOf_36 : decode cX9_showTapeOf 36 = .ok (.invokevirtual 151, 3) := dOf oX9_showTapeOf_0 18 rfl
theorem dX9_showTapeOf_39 : decode cX9_showTapeOf 39 = .ok (.iconst 4, 1) := dOf oX9_showTapeOf_0 19 rfl
theorem dX9_showTapeOf_40 : decode cX9_showTapeOf 40 = .ok (.if_icmp .lt 6, 3) := dOf oX9_showTapeOf_0 20 rfl
theorem dX9_showTapeOf_43 : decode cX9_showTapeOf 43 = .ok (.bipush (-3), 2) := dOf oX9_showTapeOf_0 21 rfl
theorem dX9_showTapeOf_45 : decode cX9_showTapeOf 45 = .ok (.ireturn, 1) := dOf oX9_showTapeOf_0 22 rfl
theorem dX9_showTapeOf_46 : decode cX9_showTapeOf 46 = .ok (.aload_n 1, 1) := dOf oX9_showTapeOf_0 23 rfl
theorem dX9_showTapeOf_47 : decode cX9_showTapeOf 47 = .ok (.getfield 199, 3) := dOf oX9_showTapeOf_0 24 rfl
theorem dX9_showTapeOf_50 : decode cX9_showTapeOf 50 = .ok (.aload_n 0, 1) := dOf oX9_showTapeOf_0 25 rfl
theorem dX9_showTapeOf_51 : decode cX9_showTapeOf 51 = .ok (.getfield 14, 3) := dOf oX9_showTapeOf_0 26 rfl
theorem dX9_showTapeOf_54 : decode cX9_showTapeOf 54 = .ok (.invokevirtual 239, 3) := dOf oX9_showTapeOf_0 27 rfl
theorem dX9_showTapeOf_57 : decode cX9_showTapeOf 57 = .ok (.aload_n 1, 1) := dOf oX9_showTapeOf_0 28 rfl
theorem dX9_showTapeOf_58 : decode cX9_showTapeOf 58 = .ok (.iconst 1, 1) := dOf oX9_showTapeOf_0 29 rfl
theorem dX9_showTapeOf_59 : decode cX9_showTapeOf 59 = .ok (.putfield 145, 3) := dOf oX9_showTapeOf_0 30 rfl
theorem dX9_showTapeOf_62 : decode cX9_showTapeOf 62 = .ok (.aload_n 1, 1) := dOf oX9_showTapeOf_0 31 rfl
theorem dX9_showTapeOf_63 : decode cX9_showTapeOf 63 = .ok (.invokevirtual 246, 3) := dOf oX9_showTapeOf_0 32 rfl
theorem dX9_showTapeOf_66 : decode cX9_showTapeOf 66 = .ok (.aload_n 0, 1) := dOf oX9_showTapeOf_0 33 rfl
theorem dX9_showTapeOf_67 : decode cX9_showTapeOf 67 = .ok (.invokevirtual 148, 3) := dOf oX9_showTapeOf_0 34 rfl
theorem dX9_showTapeOf_70 : decode cX9_showTapeOf 70 = .ok (.aload_n 0, 1) := dOf oX9_showTapeOf_0 35 rfl
theorem dX9_showTapeOf_71 : decode cX9_showTapeOf 71 = .ok (.iconst 1, 1) := dOf oX9_showTapeOf_0 36 rfl
theorem dX9_showTapeOf_72 : decode cX9_showTapeOf 72 = .ok (.invokevirtual 151, 3) := dOf oX9_showTapeOf_0 37 rfl
theorem dX9_showTapeOf_75 : decode cX9_showTapeOf 75 = .ok (.ireturn, 1) := dOf oX9_showTapeOf_0 38 rfl
def eX9_howMany_0 : List (Nat × Instr × Nat) := [(0, .iconst 0, 1), (1, .istore_n 2, 1), (2, .iconst 0, 1), (3, .istore_n 3, 1), (4, .iload_n 3, 1), (5, .aload_n 0, 1), (6, .getfield 27, 3), (9, .if_icmp .ge 25, 3), (12, .aload_n 0, 1), (13, .getfield 23, 3), (16, .iload_n 3, 1), (17, .aaload, 1), (18, .getfield 145, 3), (21, .iload_n 1, 1), (22, .if_icmp .ne 6, 3), (25, .iinc 2 1, 3), (28, .iinc 3 1, 3), (31, .goto (-27), 3), (34, .iload_n 2, 1), (35, .ireturn, 1)]
theorem oX9_howMany_0 : okC cX9_howMany eX9_howMany_0 = true := by decide +kernel
theorem dX9_howMany_0 : decode cX9_howMany 0 = .ok (.iconst 0, 1) := dOf oX9_howMany_0 0 rfl
theorem dX9_howMany_1 : decode cX9_howMany 1 = .ok (.istore_n 2, 1) := dOf oX9_howMany_0 1 rfl
theorem dX9_howMany_2 : decode cX9_howMany 2 = .ok (.iconst 0, 1) := dOf oX9_howMany_0 2 rfl
theorem dX9_howMany_3 : decode cX9_howMany 3 = .ok (.istore_n 3, 1) := dOf oX9_howMany_0 3 rfl
theorem dX9_howMany_4 : decode cX9_howMany 4 = .ok (.iload_n 3, 1) := dOf oX9_howMany_0 4 rfl
theorem dX9_howMany_5 : decode cX9_howMany 5 = .ok (.aload_n 0, 1) := dOf oX9_howMany_0 5 rfl
theorem dX9_howMany_6 : decode cX9_howMany 6 = .ok (.getfield 27, 3) := dOf oX9_howMany_0 6 rfl
theorem dX9_howMany_9 : decode cX9_howMany 9 = .ok (.if_icmp .ge 25, 3) := dOf oX9_howMany_0 7 rfl
theorem dX9_howMany_12 : decode cX9_howMany 12 = .ok (.aload_n 0, 1) := dOf oX9_howMany_0 8 rfl
theorem dX9_howMany_13 : decode cX9_howMany 13 = .ok (.getfield 23, 3) := dOf oX9_howMany_0 9 rfl
theorem dX9_howMany_16 : decode cX9_howMany 16 = .ok (.iload_n 3, 1) := dOf oX9_howMany_0 10 rfl
theorem dX9_howMany_17 : decode cX9_howMany 17 = .ok (.aaload, 1) := dOf oX9_howMany_0 11 rfl
theorem dX9_howMany_18 : decode cX9_howMany 18 = .ok (.getfield 145, 3) := dOf oX9_howMany_0 12 rfl
theorem dX9_howMany_21 : decode cX9_howMany 21 = .ok (.iload_n 1, 1) := dOf oX9_howMany_0 13 rfl
theorem dX9_howMany_22 : decode cX9_howMany 22 = .ok (.if_icmp .ne 6, 3) := dOf oX9_howMany_0 14 rfl
theorem dX9_howMany_25 : decode cX9_howMany 25 = .ok (.iinc 2 1, 3) := dOf oX9_howMany_0 15 rfl
theorem dX9_howMany_28 : decode cX9_howMany 28 = .ok (.iinc 3 1, 3) := dOf oX9_howMany_0 16 rfl
theorem dX9_howMany_31 : decode cX9_howMany 31 = .ok (.goto (-27), 3) := dOf oX9_howMany_0 17 rfl
theorem dX9_howMany_34 : decode cX9_howMany 34 = .ok (.iload_n 2, 1) := dOf oX9_howMany_0 18 rfl
theorem dX9_howMany_35 : decode cX9_howMany 35 = .ok (.ireturn, 1) := dOf oX9_howMany_0 19 rfl
def eX9_showingChanged_0 : List (Nat × Instr × Nat) := [(0, .aload_n 0, 1), (1, .iconst 0, 1), (2, .putfield 38, 3), (5, .aload_n 0, 1), (6, .iconst (-1), 1), (7, .putfield 42, 3), (10, .return_, 1)]
theorem oX9_showingChanged_0 : okC cX9_showingChanged eX9_showingChanged_0 = true := by decide +kernel
theorem dX9_showingChanged_0 : decode cX9_showingChanged 0 = .ok (.aload_n 0, 1) := dOf oX9_showingChanged_0 0 rfl
theorem dX9_showingChanged_1 : decode cX9_showingChanged 1 = .ok (.iconst 0, 1) := dOf oX9_showingChanged_0 1 rfl
theorem dX9_showingChanged_2 : decode cX9_showingChanged 2 = .ok (.putfield 38, 3) := dOf oX9_showingChanged_0 2 rfl
theorem dX9_showingChanged_5 : decode cX9_showingChanged 5 = .ok (.aload_n 0, 1) := dOf oX9_showingChanged_0 3 rfl
theorem dX9_showingChanged_6 : decode cX9_showingChanged 6 = .ok (.iconst (-1), 1) := dOf oX9_showingChanged_0 4 rfl
theorem dX9_showingChanged_7 : decode cX9_showingChanged 7 = .ok (.putfield 42, 3) := dOf oX9_showingChanged_0 5 rfl
theorem dX9_showingChanged_10 : decode cX9_showingChanged 10 = .ok (.return_, 1) := dOf oX9_showingChanged_0 6 rfl
def eX9_fitRefusal_0 : List (Nat × Instr × Nat) := [(0, .aload_n 0, 1), (1, .iconst 1, 1), (2, .invokevirtual 151, 3), (5, .ifCond .ne 6, 3), (8, .bipush (-2), 2), (10, .ireturn, 1), (11, .aload_n 0, 1), (12, .getfield 38, 3), (15, .ifCond .ne 20, 3), (18, .aload_n 0, 1), (19, .iconst 0, 1), (20, .invokevirtual 249, 3), (23, .aload_n 0, 1), (24, .getfield 34, 3), (27, .invokevirtual 252, 3), (30, .aload_n 0, 1), (31, .iconst 1, 1), (32, .putfield 38, 3), (35, .aload_n 0, 1), (36, .getfield 34, 3), (39, .iconst 0, 1), (40, .invokevirtual 162, 3), (43, .ifCond .ne 8, 3), (46, .bipush (-4), 2), (48, .goto 4, 3), (51, .iconst 0, 1), (52, .ireturn, 1)]
theorem oX9_fitRefusal_0 : okC cX9_fitRefusal eX9_fitRefusal_0 = true := by decide +kernel
theorem dX9_fitRefusal_0 : decode cX9_fitRefusal 0 = .ok (.aload_n 0, 1) := dOf oX9_fitRefusal_0 0 rfl
theorem dX9_fitRefusal_1 : decode cX9_fitRefusal 1 = .ok (.iconst 1, 1) := dOf oX9_fitRefusal_0 1 rfl
theorem dX9_fitRefusal_2 : decode cX9_fitRefusal 2 = .ok (.invokevirtual 151, 3) := dOf oX9_fitRefusal_0 2 rfl
theorem dX9_fitRefusal_5 : decode cX9_fitRefusal 5 = .ok (.ifCond .ne 6, 3) := dOf oX9_fitRefusal_0 3 rfl
theorem dX9_fitRefusal_8 : decode cX9_fitRefusal 8 = .ok (.bipush (-2), 2) := dOf oX9_fitRefusal_0 4 rfl
theorem dX9_fitRefusal_10 : decode cX9_fitRefusal 10 = .ok (.ireturn, 1) := dOf oX9_fitRefusal_0 5 rfl
theorem dX9_fitRefusal_11 : decode cX9_fitRefusal 11 = .ok (.aload_n 0, 1) := dOf oX9_fitRefusal_0 6 rfl
theorem dX9_fitRefusal_12 : decode cX9_fitRefusal 12 = .ok (.getfield 38, 3) := dOf oX9_fitRefusal_0 7 rfl
theorem dX9_fitRefusal_15 : decode cX9_fitRefusal 15 = .ok (.ifCond .ne 20, 3) := dOf oX9_fitRefusal_0 8 rfl
theorem dX9_fitRefusal_18 : decode cX9_fitRefusal 18 = .ok (.aload_n 0, 1) := dOf oX9_fitRefusal_0 9 rfl
theorem dX9_fitRefusal_19 : decode cX9_fitRefusal 19 = .ok (.iconst 0, 1) := dOf oX9_fitRefusal_0 10 rfl
theorem dX9_fitRefusal_20 : decode cX9_fitRefusal 20 = .ok (.invokevirtual 249, 3) := dOf oX9_fitRefusal_0 11 rfl
theorem dX9_fitRefusal_23 : decode cX9_fitRefusal 23 = .ok (.aload_n 0, 1) := dOf oX9_fitRefusal_0 12 rfl
theorem dX9_fitRefusal_24 : decode cX9_fitRefusal 24 = .ok (.getfield 34, 3) := dOf oX9_fitRefusal_0 13 rfl
theorem dX9_fitRefusal_27 : decode cX9_fitRefusal 27 = .ok (.invokevirtual 252, 3) := dOf oX9_fitRefusal_0 14 rfl
theorem dX9_fitRefusal_30 : decode cX9_fitRefusal 30 = .ok (.aload_n 0, 1) := dOf oX9_fitRefusal_0 15 rfl
theorem dX9_fitRefusal_31 : decode cX9_fitRefusal 31 = .ok (.iconst 1, 1) := dOf oX9_fitRefusal_0 16 rfl
theorem dX9_fitRefusal_32 : decode cX9_fitRefusal 32 = .ok (.putfield 38, 3) := dOf oX9_fitRefusal_0 17 rfl
theorem dX9_fitRefusal_35 : decode cX9_fitRefusal 35 = .ok (.aload_n 0, 1) := dOf oX9_fitRefusal_0 18 rfl
theorem dX9_fitRefusal_36 : decode cX9_fitRefusal 36 = .ok (.getfield 34, 3) := dOf oX9_fitRefusal_0 19 rfl
theorem dX9_fitRefusal_39 : decode cX9_fitRefusal 39 = .ok (.iconst 0, 1) := dOf oX9_fitRefusal_0 20 rfl
theorem dX9_fitRefusal_40 : decode cX9_fitRefusal 40 = .ok (.invokevirtual 162, 3) := dOf oX9_fitRefusal_0 21 rfl
theorem dX9_fitRefusal_43 : decode cX9_fitRefusal 43 = .ok (.ifCond .ne 8, 3) := dOf oX9_fitRefusal_0 22 rfl
theorem dX9_fitRefusal_46 : decode cX9_fitRefusal 46 = .ok (.bipush (-4), 2) := dOf oX9_fitRefusal_0 23 rfl
theorem dX9_fitRefusal_48 : decode cX9_fitRefusal 48 = .ok (.goto 4, 3) := dOf oX9_fitRefusal_0 24 rfl
theorem dX9_fitRefusal_51 : decode cX9_fitRefusal 51 = .ok (.iconst 0, 1) := dOf oX9_fitRefusal_0 25 rfl
theorem dX9_fitRefusal_52 : decode cX9_fitRefusal 52 = .ok (.ireturn, 1) := dOf oX9_fitRefusal_0 26 rfl
def eX9_measureWithout_0 : List (Nat × Instr × Nat) := [(0, .aload_n 0, 1), (1, .getfield 34, 3), (4, .invokevirtual 255, 3), (7, .iconst 0, 1), (8, .istore_n 2, 1), (9, .iload_n 2, 1), (10, .aload_n 0, 1), (11, .getfield 27, 3), (14, .if_icmp .ge 43, 3), (17, .aload_n 0, 1), (18, .getfield 23, 3), (21, .iload_n 2, 1), (22, .aaload, 1), (23, .getfield 145, 3), (26, .iconst 1, 1), (27, .if_icmp .ne 24, 3), (30, .iload_n 1, 1), (31, .iload_n 2, 1), (32, .ishr, 1), (33, .iconst 1, 1), (34, .iand, 1), (35, .ifCond .ne 16, 3), (38, .aload_n 0, 1), (39, .getfield 34, 3), (42, .aload_n 0, 1), (43, .getfield 23, 3), (46, .iload_n 2, 1), (47, .aaload, 1), (48, .invokevirtual 256, 3), (51, .iinc 2 1, 3), (54, .goto (-45), 3), (57, .aload_n 0, 1), (58, .getfield 34, 3), (61, .invokevirtual 259, 3), (64, .return_, 1)]
theorem oX9_measureWithout_0 : okC cX9_measureWithout eX9_measureWithout_0 = true := by decide +kernel
theorem dX9_measureWithout_0 : decode cX9_measureWithout 0 = .ok (.aload_n 0, 1) := dOf oX9_measureWithout_0 0 rfl
theorem dX9_measureWithout_1 : decode cX9_measureWithout 1 = .ok (.getfield 34, 3) := dOf oX9_measureWithout_0 1 rfl
theorem dX9_measureWithout_4 : decode cX9_measureWithout 4 = .ok (.invokevirtual 255, 3) := dOf oX9_measureWithout_0 2 rfl
theorem dX9_measureWithout_7 : decode cX9_measureWithout 7 = .ok (.iconst 0, 1) := dOf oX9_measureWithout_0 3 rfl
theorem dX9_measureWithout_8 : decode cX9_measureWithout 8 = .ok (.istore_n 2, 1) := dOf oX9_measureWithout_0 4 rfl
theorem dX9_measureWithout_9 : decode cX9_measureWithout 9 = .ok (.iload_n 2, 1) := dOf oX9_measureWithout_0 5 rfl
theorem dX9_measureWithout_10 : decode cX9_measureWithout 10 = .ok (.aload_n 0, 1) := dOf oX9_measureWithout_0 6 rfl
theorem dX9_measureWithout_11 : decode cX9_measureWithout 11 = .ok (.getfield 27, 3) := dOf oX9_measureWithout_0 7 rfl
theorem dX9_measureWithout_14 : decode cX9_measureWithout 14 = .ok (.if_icmp .ge 43, 3) := dOf oX9_measureWithout_0 8 rfl
theorem dX9_measureWithout_17 : decode cX9_measureWithout 17 = .ok (.aload_n 0, 1) := dOf oX9_measureWithout_0 9 rfl
theorem dX9_measureWithout_18 : decode cX9_measureWithout 18 = .ok (.getfield 23, 3) := dOf oX9_measureWithout_0 10 rfl
theorem dX9_measureWithout_21 : decode cX9_measureWithout 21 = .ok (.iload_n 2, 1) := dOf oX9_measureWithout_0 11 rfl
theorem dX9_measureWithout_22 : decode cX9_measureWithout 22 = .ok (.aaload, 1) := dOf oX9_measureWithout_0 12 rfl
theorem dX9_measureWithout_23 : decode cX9_measureWithout 23 = .ok (.getfield 145, 3) := dOf oX9_measureWithout_0 13 rfl
theorem dX9_measureWithout_26 : decode cX9_measureWithout 26 = .ok (.iconst 1, 1) := dOf oX9_measureWithout_0 14 rfl
theorem dX9_measureWithout_27 : decode cX9_measureWithout 27 = .ok (.if_icmp .ne 24, 3) := dOf oX9_measureWithout_0 15 rfl
theorem dX9_measureWithout_30 : decode cX9_measureWithout 30 = .ok (.iload_n 1, 1) := dOf oX9_measureWithout_0 16 rfl
theorem dX9_measureWithout_31 : decode cX9_measureWithout 31 = .ok (.iload_n 2, 1) := dOf oX9_measureWithout_0 17 rfl
theorem dX9_measureWithout_32 : decode cX9_measureWithout 32 = .ok (.ishr, 1) := dOf oX9_measureWithout_0 18 rfl
theorem dX9_measureWithout_33 : decode cX9_measureWithout 33 = .ok (.iconst 1, 1) := dOf oX9_measureWithout_0 19 rfl
theorem dX9_measureWithout_34 : decode cX9_measureWithout 34 = .ok (.iand, 1) := dOf oX9_measureWithout_0 20 rfl
theorem dX9_measureWithout_35 : decode cX9_measureWithout 35 = .ok (.ifCond .ne 16, 3) := dOf oX9_measureWithout_0 21 rfl
theorem dX9_measureWithout_38 : decode cX9_measureWithout 38 = .ok (.aload_n 0, 1) := dOf oX9_measureWithout_0 22 rfl
theorem dX9_measureWithout_39 : decode cX9_measureWithout 39 = .ok (.getfield 34, 3) := dOf oX9_measureWithout_0 23 rfl
theorem dX9_measureWithout_42 : decode cX9_measureWithout 42 = .ok (.aload_n 0, 1) := dOf oX9_measureWithout_0 24 rfl
theorem dX9_measureWithout_43 : decode cX9_measureWithout 43 = .ok (.getfield 23, 3) := dOf oX9_measureWithout_0 25 rfl
theorem dX9_measureWithout_46 : decode cX9_measureWithout 46 = .ok (.iload_n 2, 1) := dOf oX9_measureWithout_0 26 rfl
theorem dX9_measureWithout_47 : decode cX9_measureWithout 47 = .ok (.aaload, 1) := dOf oX9_measureWithout_0 27 rfl
theorem dX9_measureWithout_48 : decode cX9_measureWithout 48 = .ok (.invokevirtual 256, 3) := dOf oX9_measureWithout_0 28 rfl
theorem dX9_measureWithout_51 : decode cX9_measureWithout 51 = .ok (.iinc 2 1, 3) := dOf oX9_measureWithout_0 29 rfl
theorem dX9_measureWithout_54 : decode cX9_measureWithout 54 = .ok (.goto (-45), 3) := dOf oX9_measureWithout_0 30 rfl
theorem dX9_measureWithout_57 : decode cX9_measureWithout 57 = .ok (.aload_n 0, 1) := dOf oX9_measureWithout_0 31 rfl
theorem dX9_measureWithout_58 : decode cX9_measureWithout 58 = .ok (.getfield 34, 3) := dOf oX9_measureWithout_0 32 rfl
theorem dX9_measureWithout_61 : decode cX9_measureWithout 61 = .ok (.invokevirtual 259, 3) := dOf oX9_measureWithout_0 33 rfl
theorem dX9_measureWithout_64 : decode cX9_measureWithout 64 = .ok (.return_, 1) := dOf oX9_measureWithout_0 34 rfl
def eX9_leastSlips_0 : List (Nat × Instr × Nat) := [(0, .iconst 0, 1), (1, .istore_n 1, 1), (2, .iconst 0, 1), (3, .istore_n 2, 1), (4, .iload_n 2, 1), (5, .aload_n 0, 1), (6, .getfield 27, 3), (9, .if_icmp .ge 28, 3), (12, .aload_n 0, 1), (13, .getfield 23, 3), (16, .iload_n 2, 1), (17, .aaload, 1), (18, .getfield 145, 3), (21, .iconst 1, 1), (22, .if_icmp .ne 9, 3), (25, .iload_n 1, 1), (26, .iconst 1, 1), (27, .iload_n 2, 1), (28, .ishl, 1), (29, .ior, 1), (30, .istore_n 1, 1), (31, .iinc 2 1, 3), (34, .goto (-30), 3), (37, .iload_n 1, 1), (38, .invokestatic 188, 3), (41, .istore_n 2, 1), (42, .aload_n 0, 1), (43, .iconst 0, 1), (44, .putfield 38, 3), (47, .iconst 1, 1), (48, .istore_n 3, 1), (49, .iload_n 3, 1), (50, .iload_n 2, 1), (51, .if_icmp .ge 66, 3), (54, .iconst 1, 1), (55, .istore 4, 2), (57, .iload 4, 2), (59, .iconst 1, 1), (60, .iload_n 2, 1), (61, .ishl, 1), (62, .if_icmp .ge 49, 3), (65, .iload 4, 2), (67, .invokestatic 188, 3), (70, .iload_n 3, 1), (71, .if_icmp .eq 6, 3), (74, .goto 31, 3), (77, .iload 4, 2), (79, .iload_n 1, 1), (80, .invokestatic 262, 3), (83, .istore 5, 2), (85, .aload_n 0, 1), (86, .iload 5, 2), (88, .invokevirtual 249, 3), (91, .aload_n 0, 1), (92, .getfield 34, 3), (95, .iconst 0, 1), (96, .invokevirtual 162, 3), (99, .ifCond .le 6, 3), (102, .iload 5, 2), (104, .ireturn, 1)]
theorem oX9_leastSlips_0 : okC cX9_leastSlips eX9_leastSlips_0 = true := by decide +kernel
theorem dX9_leastSlips_0 : decode cX9_leastSlips 0 = .ok (.iconst 0, 1) := dOf oX9_leastSlips_0 0 rfl
theorem dX9_leastSlips_1 : decode cX9_leastSlips 1 = .ok (.istore_n 1, 1) := dOf oX9_leastSlips_0 1 rfl
theorem dX9_leastSlips_2 : decode cX9_leastSlips 2 = .ok (.iconst 0, 1) := dOf oX9_leastSlips_0 2 rfl
theorem dX9_leastSlips_3 : decode cX9_leastSlips 3 = .ok (.istore_n 2, 1) := dOf oX9_leastSlips_0 3 rfl
theorem dX9_leastSlips_4 : decode cX9_leastSlips 4 = .ok (.iload_n 2, 1) := dOf oX9_leastSlips_0 4 rfl
theorem dX9_leastSlips_5 : decode cX9_leastSlips 5 = .ok (.aload_n 0, 1) := dOf oX9_leastSlips_0 5 rfl
theorem dX9_leastSlips_6 : decode cX9_leastSlips 6 = .ok (.getfield 27, 3) := dOf oX9_leastSlips_0 6 rfl
theorem dX9_leastSlips_9 : decode cX9_leastSlips 9 = .ok (.if_icmp .ge 28, 3) := dOf oX9_leastSlips_0 7 rfl
theorem dX9_leastSlips_12 : decode cX9_leastSlips 12 = .ok (.aload_n 0, 1) := dOf oX9_leastSlips_0 8 rfl
theorem dX9_leastSlips_13 : decode cX9_leastSlips 13 = .ok (.getfield 23, 3) := dOf oX9_leastSlips_0 9 rfl
theorem dX9_leastSlips_16 : decode cX9_leastSlips 16 = .ok (.iload_n 2, 1) := dOf oX9_leastSlips_0 10 rfl
theorem dX9_leastSlips_17 : decode cX9_leastSlips 17 = .ok (.aaload, 1) := dOf oX9_leastSlips_0 11 rfl
theorem dX9_leastSlips_18 : decode cX9_leastSlips 18 = .ok (.getfield 145, 3) := dOf oX9_leastSlips_0 12 rfl
theorem dX9_leastSlips_21 : decode cX9_leastSlips 21 = .ok (.iconst 1, 1) := dOf oX9_leastSlips_0 13 rfl
theorem dX9_leastSlips_22 : decode cX9_leastSlips 22 = .ok (.if_icmp .ne 9, 3) := dOf oX9_leastSlips_0 14 rfl
theorem dX9_leastSlips_25 : decode cX9_leastSlips 25 = .ok (.iload_n 1, 1) := dOf oX9_leastSlips_0 15 rfl
theorem dX9_leastSlips_26 : decode cX9_leastSlips 26 = .ok (.iconst 1, 1) := dOf oX9_leastSlips_0 16 rfl
theorem dX9_leastSlips_27 : decode cX9_leastSlips 27 = .ok (.iload_n 2, 1) := dOf oX9_leastSlips_0 17 rfl
theorem dX9_leastSlips_28 : decode cX9_leastSlips 28 = .ok (.ishl, 1) := dOf oX9_leastSlips_0 18 rfl
theorem dX9_leastSlips_29 : decode cX9_leastSlips 29 = .ok (.ior, 1) := dOf oX9_leastSlips_0 19 rfl
theorem dX9_leastSlips_30 : decode cX9_leastSlips 30 = .ok (.istore_n 1, 1) := dOf oX9_leastSlips_0 20 rfl
theorem dX9_leastSlips_31 : decode cX9_leastSlips 31 = .ok (.iinc 2 1, 3) := dOf oX9_leastSlips_0 21 rfl
theorem dX9_leastSlips_34 : decode cX9_leastSlips 34 = .ok (.goto (-30), 3) := dOf oX9_leastSlips_0 22 rfl
theorem dX9_leastSlips_37 : decode cX9_leastSlips 37 = .ok (.iload_n 1, 1) := dOf oX9_leastSlips_0 23 rfl
theorem dX9_leastSlips_38 : decode cX9_leastSlips 38 = .ok (.invokestatic 188, 3) := dOf oX9_leastSlips_0 24 rfl
theorem dX9_leastSlips_41 : decode cX9_leastSlips 41 = .ok (.istore_n 2, 1) := dOf oX9_leastSlips_0 25 rfl
theorem dX9_leastSlips_42 : decode cX9_leastSlips 42 = .ok (.aload_n 0, 1) := dOf oX9_leastSlips_0 26 rfl
theorem dX9_leastSlips_43 : decode cX9_leastSlips 43 = .ok (.iconst 0, 1) := dOf oX9_leastSlips_0 27 rfl
theorem dX9_leastSlips_44 : decode cX9_leastSlips 44 = .ok (.putfield 38, 3) := dOf oX9_leastSlips_0 28 rfl
theorem dX9_leastSlips_47 : decode cX9_leastSlips 47 = .ok (.iconst 1, 1) := dOf oX9_leastSlips_0 29 rfl
theorem dX9_leastSlips_48 : decode cX9_leastSlips 48 = .ok (.istore_n 3, 1) := dOf oX9_leastSlips_0 30 rfl
theorem dX9_leastSlips_49 : decode cX9_leastSlips 49 = .ok (.iload_n 3, 1) := dOf oX9_leastSlips_0 31 rfl
theorem dX9_leastSlips_50 : decode cX9_leastSlips 50 = .ok (.iload_n 2, 1) := dOf oX9_leastSlips_0 32 rfl
theorem dX9_leastSlips_51 : decode cX9_leastSlips 51 = .ok (.if_icmp .ge 66, 3) := dOf oX9_leastSlips_0 33 rfl
theorem dX9_leastSlips_54 : decode cX9_leastSlips 54 = .ok (.iconst 1, 1) := dOf oX9_leastSlips_0 34 rfl
theorem dX9_leastSlips_55 : decode cX9_leastSlips 55 = .ok (.istore 4, 2) := dOf oX9_leastSlips_0 35 rfl
theorem dX9_leastSlips_57 : decode cX9_leastSlips 57 = .ok (.iload 4, 2) := dOf oX9_leastSlips_0 36 rfl
theorem dX9_leastSlips_59 : decode cX9_leastSlips 59 = .ok (.iconst 1, 1) := dOf oX9_leastSlips_0 37 rfl
theorem dX9_leastSlips_60 : decode cX9_leastSlips 60 = .ok (.iload_n 2, 1) := dOf oX9_leastSlips_0 38 rfl
theorem dX9_leastSlips_61 : decode cX9_leastSlips 61 = .ok (.ishl, 1) := dOf oX9_leastSlips_0 39 rfl
theorem dX9_leastSlips_62 : decode cX9_leastSlips 62 = .ok (.if_icmp .ge 49, 3) := dOf oX9_leastSlips_0 40 rfl
theorem dX9_leastSlips_65 : decode cX9_leastSlips 65 = .ok (.iload 4, 2) := dOf oX9_leastSlips_0 41 rfl
theorem dX9_leastSlips_67 : decode cX9_leastSlips 67 = .ok (.invokestatic 188, 3) := dOf oX9_leastSlips_0 42 rfl
theorem dX9_leastSlips_70 : decode cX9_leastSlips 70 = .ok (.iload_n 3, 1) := dOf oX9_leastSlips_0 43 rfl
theorem dX9_leastSlips_71 : decode cX9_leastSlips 71 = .ok (.if_icmp .eq 6, 3) := dOf oX9_leastSlips_0 44 rfl
theorem dX9_leastSlips_74 : decode cX9_leastSlips 74 = .ok (.goto 31, 3) := dOf oX9_leastSlips_0 45 rfl
theorem dX9_leastSlips_77 : decode cX9_leastSlips 77 = .ok (.iload 4, 2) := dOf oX9_leastSlips_0 46 rfl
theorem dX9_leastSlips_79 : decode cX9_leastSlips 79 = .ok (.iload_n 1, 1) := dOf oX9_leastSlips_0 47 rfl
theorem dX9_leastSlips_80 : decode cX9_leastSlips 80 = .ok (.invokestatic 262, 3) := dOf oX9_leastSlips_0 48 rfl
theorem dX9_leastSlips_83 : decode cX9_leastSlips 83 = .ok (.istore 5, 2) := dOf oX9_leastSlips_0 49 rfl
theorem dX9_leastSlips_85 : decode cX9_leastSlips 85 = .ok (.aload_n 0, 1) := dOf oX9_leastSlips_0 50 rfl
theorem dX9_leastSlips_86 : decode cX9_leastSlips 86 = .ok (.iload 5, 2) := dOf oX9_leastSlips_0 51 rfl
theorem dX9_leastSlips_88 : decode cX9_leastSlips 88 = .ok (.invokevirtual 249, 3) := dOf oX9_leastSlips_0 52 rfl
theorem dX9_leastSlips_91 : decode cX9_leastSlips 91 = .ok (.aload_n 0, 1) := dOf oX9_leastSlips_0 53 rfl
theorem dX9_leastSlips_92 : decode cX9_leastSlips 92 = .ok (.getfield 34, 3) := dOf oX9_leastSlips_0 54 rfl
theorem dX9_leastSlips_95 : decode cX9_leastSlips 95 = .ok (.iconst 0, 1) := dOf oX9_leastSlips_0 55 rfl
theorem dX9_leastSlips_96 : decode cX9_leastSlips 96 = .ok (.invokevirtual 162, 3) := dOf oX9_leastSlips_0 56 rfl
theorem dX9_leastSlips_99 : decode cX9_leastSlips 99 = .ok (.ifCond .le 6, 3) := dOf oX9_leastSlips_0 57 rfl
theorem dX9_leastSlips_102 : decode cX9_leastSlips 102 = .ok (.iload 5, 2) := dOf oX9_leastSlips_0 58 rfl
theorem dX9_leastSlips_104 : decode cX9_leastSlips 104 = .ok (.ireturn, 1) := dOf oX9_leastSlips_0 59 rfl
def eX9_leastSlips_1 : List (Nat × Instr × Nat) := [(105, .iinc 4 1, 3), (108, .goto (-51), 3), (111, .iinc 3 1, 3), (114, .goto (-65), 3), (117, .iload_n 1, 1), (118, .ireturn, 1)]
theorem oX9_leastSlips_1 : okC cX9_leastSlips eX9_leastSlips_1 = true := by decide +kernel
theorem dX9_leastSlips_105 : decode cX9_leastSlips 105 = .ok (.iinc 4 1, 3) := dOf oX9_leastSlips_1 0 rfl
theorem dX9_leastSlips_108 : decode cX9_leastSlips 108 = .ok (.goto (-51), 3) := dOf oX9_leastSlips_1 1 rfl
theorem dX9_leastSlips_111 : decode cX9_leastSlips 111 = .ok (.iinc 3 1, 3) := dOf oX9_leastSlips_1 2 rfl
theorem dX9_leastSlips_114 : decode cX9_leastSlips 114 = .ok (.goto (-65), 3) := dOf oX9_leastSlips_1 3 rfl
theorem dX9_leastSlips_117 : decode cX9_leastSlips 117 = .ok (.iload_n 1, 1) := dOf oX9_leastSlips_1 4 rfl
theorem dX9_leastSlips_118 : decode cX9_leastSlips 118 = .ok (.ireturn, 1) := dOf oX9_leastSlips_1 5 rfl
def eX9_spread_0 : List (Nat × Instr × Nat) := [(0, .iconst 0, 1), (1, .istore_n 2, 1), (2, .iconst 0, 1), (3, .istore_n 3, 1), (4, .iconst 0, 1), (5, .istore 4, 2), (7, .iload 4, 2), (9, .bipush 12, 2), (11, .if_icmp .ge 33, 3), (14, .iload_n 1, 1), (15, .iload 4, 2), (17, .ishr, 1), (18, .iconst 1, 1), (19, .iand, 1), (20, .iconst 1, 1), (21, .if_icmp .ne 17, 3), (24, .iload_n 2, 1), (25, .iload_n 0, 1), (26, .iload_n 3, 1), (27, .ishr, 1), (28, .iconst 1, 1), (29, .iand, 1), (30, .iload 4, 2), (32, .ishl, 1), (33, .ior, 1), (34, .istore_n 2, 1), (35, .iinc 3 1, 3), (38, .iinc 4 1, 3), (41, .goto (-34), 3), (44, .iload_n 2, 1), (45, .ireturn, 1)]
theorem oX9_spread_0 : okC cX9_spread eX9_spread_0 = true := by decide +kernel
theorem dX9_spread_0 : decode cX9_spread 0 = .ok (.iconst 0, 1) := dOf oX9_spread_0 0 rfl
theorem dX9_spread_1 : decode cX9_spread 1 = .ok (.istore_n 2, 1) := dOf oX9_spread_0 1 rfl
theorem dX9_spread_2 : decode cX9_spread 2 = .ok (.iconst 0, 1) := dOf oX9_spread_0 2 rfl
theorem dX9_spread_3 : decode cX9_spread 3 = .ok (.istore_n 3, 1) := dOf oX9_spread_0 3 rfl
theorem dX9_spread_4 : decode cX9_spread 4 = .ok (.iconst 0, 1) := dOf oX9_spread_0 4 rfl
theorem dX9_spread_5 : decode cX9_spread 5 = .ok (.istore 4, 2) := dOf oX9_spread_0 5 rfl
theorem dX9_spread_7 : decode cX9_spread 7 = .ok (.iload 4, 2) := dOf oX9_spread_0 6 rfl
theorem dX9_spread_9 : decode cX9_spread 9 = .ok (.bipush 12, 2) := dOf oX9_spread_0 7 rfl
theorem dX9_spread_11 : decode cX9_spread 11 = .ok (.if_icmp .ge 33, 3) := dOf oX9_spread_0 8 rfl
theorem dX9_spread_14 : decode cX9_spread 14 = .ok (.iload_n 1, 1) := dOf oX9_spread_0 9 rfl
theorem dX9_spread_15 : decode cX9_spread 15 = .ok (.iload 4, 2) := dOf oX9_spread_0 10 rfl
theorem dX9_spread_17 : decode cX9_spread 17 = .ok (.ishr, 1) := dOf oX9_spread_0 11 rfl
theorem dX9_spread_18 : decode cX9_spread 18 = .ok (.iconst 1, 1) := dOf oX9_spread_0 12 rfl
theorem dX9_spread_19 : decode cX9_spread 19 = .ok (.iand, 1) := dOf oX9_spread_0 13 rfl
theorem dX9_spread_20 : decode cX9_spread 20 = .ok (.iconst 1, 1) := dOf oX9_spread_0 14 rfl
theorem dX9_spread_21 : decode cX9_spread 21 = .ok (.if_icmp .ne 17, 3) := dOf oX9_spread_0 15 rfl
theorem dX9_spread_24 : decode cX9_spread 24 = .ok (.iload_n 2, 1) := dOf oX9_spread_0 16 rfl
theorem dX9_spread_25 : decode cX9_spread 25 = .ok (.iload_n 0, 1) := dOf oX9_spread_0 17 rfl
theorem dX9_spread_26 : decode cX9_spread 26 = .ok (.iload_n 3, 1) := dOf oX9_spread_0 18 rfl
theorem dX9_spread_27 : decode cX9_spread 27 = .ok (.ishr, 1) := dOf oX9_spread_0 19 rfl
theorem dX9_spread_28 : decode cX9_spread 28 = .ok (.iconst 1, 1) := dOf oX9_spread_0 20 rfl
theorem dX9_spread_29 : decode cX9_spread 29 = .ok (.iand, 1) := dOf oX9_spread_0 21 rfl
theorem dX9_spread_30 : decode cX9_spread 30 = .ok (.iload 4, 2) := dOf oX9_spread_0 22 rfl
theorem dX9_spread_32 : decode cX9_spread 32 = .ok (.ishl, 1) := dOf oX9_spread_0 23 rfl
theorem dX9_spread_33 : decode cX9_spread 33 = .ok (.ior, 1) := dOf oX9_spread_0 24 rfl
theorem dX9_spread_34 : decode cX9_spread 34 = .ok (.istore_n 2, 1) := dOf oX9_spread_0 25 rfl
theorem dX9_spread_35 : decode cX9_spread 35 = .ok (.iinc 3 1, 3) := dOf oX9_spread_0 26 rfl
theorem dX9_spread_38 : decode cX9_spread 38 = .ok (.iinc 4 1, 3) := dOf oX9_spread_0 27 rfl
theorem dX9_spread_41 : decode cX9_spread 41 = .ok (.goto (-34), 3) := dOf oX9_spread_0 28 rfl
theorem dX9_spread_44 : decode cX9_spread 44 = .ok (.iload_n 2, 1) := dOf oX9_spread_0 29 rfl
theorem dX9_spread_45 : decode cX9_spread 45 = .ok (.ireturn, 1) := dOf oX9_spread_0 30 rfl
def eX9_makesOddEnd_0 : List (Nat × Instr × Nat) := [(0, .aload_n 0, 1), (1, .getfield 34, 3), (4, .getfield 163, 3), (7, .iconst 0, 1), (8, .aaload, 1), (9, .aload_n 1, 1), (10, .aload_n 0, 1), (11, .getfield 18, 3), (14, .invokevirtual 167, 3), (17, .ifCond .ne 5, 3), (20, .iconst 1, 1), (21, .ireturn, 1), (22, .aload_n 0, 1), (23, .getfield 18, 3), (26, .invokestatic 266, 3), (29, .istore_n 2, 1), (30, .iconst 0, 1), (31, .istore_n 3, 1), (32, .iload_n 3, 1), (33, .aload_n 0, 1), (34, .getfield 27, 3), (37, .if_icmp .ge 40, 3), (40, .aload_n 0, 1), (41, .getfield 23, 3), (44, .iload_n 3, 1), (45, .aaload, 1), (46, .getfield 145, 3), (49, .iconst 1, 1), (50, .if_icmp .ne 21, 3), (53, .aload_n 0, 1), (54, .getfield 23, 3), (57, .iload_n 3, 1), (58, .aaload, 1), (59, .getfield 199, 3), (62, .invokestatic 266, 3), (65, .iload_n 2, 1), (66, .if_icmp .ne 5, 3), (69, .iconst 0, 1), (70, .ireturn, 1), (71, .iinc 3 1, 3), (74, .goto (-42), 3), (77, .iconst 1, 1), (78, .ireturn, 1)]
theorem oX9_makesOddEnd_0 : okC cX9_makesOddEnd eX9_makesOddEnd_0 = true := by decide +kernel
theorem dX9_makesOddEnd_0 : decode cX9_makesOddEnd 0 = .ok (.aload_n 0, 1) := dOf oX9_makesOddEnd_0 0 rfl
theorem dX9_makesOddEnd_1 : decode cX9_makesOddEnd 1 = .ok (.getfield 34, 3) := dOf oX9_makesOddEnd_0 1 rfl
theorem dX9_makesOddEnd_4 : decode cX9_makesOddEnd 4 = .ok (.getfield 163, 3) := dOf oX9_makesOddEnd_0 2 rfl
theorem dX9_makesOddEnd_7 : decode cX9_makesOddEnd 7 = .ok (.iconst 0, 1) := dOf oX9_makesOddEnd_0 3 rfl
theorem dX9_makesOddEnd_8 : decode cX9_makesOddEnd 8 = .ok (.aaload, 1) := dOf oX9_makesOddEnd_0 4 rfl
theorem dX9_makesOddEnd_9 : decode cX9_makesOddEnd 9 = .ok (.aload_n 1, 1) := dOf oX9_makesOddEnd_0 5 rfl
theorem dX9_makesOddEnd_10 : decode cX9_makesOddEnd 10 = .ok (.aload_n 0, 1) := dOf oX9_makesOddEnd_0 6 rfl
theorem dX9_makesOddEnd_11 : decode cX9_makesOddEnd 11 = .ok (.getfield 18, 3) := dOf oX9_makesOddEnd_0 7 rfl
theorem dX9_makesOddEnd_14 : decode cX9_makesOddEnd 14 = .ok (.invokevirtual 167, 3) := dOf oX9_makesOddEnd_0 8 rfl
theorem dX9_makesOddEnd_17 : decode cX9_makesOddEnd 17 = .ok (.ifCond .ne 5, 3) := dOf oX9_makesOddEnd_0 9 rfl
theorem dX9_makesOddEnd_20 : decode cX9_makesOddEnd 20 = .ok (.iconst 1, 1) := dOf oX9_makesOddEnd_0 10 rfl
theorem dX9_makesOddEnd_21 : decode cX9_makesOddEnd 21 = .ok (.ireturn, 1) := dOf oX9_makesOddEnd_0 11 rfl
theorem dX9_makesOddEnd_22 : decode cX9_makesOddEnd 22 = .ok (.aload_n 0, 1) := dOf oX9_makesOddEnd_0 12 rfl
theorem dX9_makesOddEnd_23 : decode cX9_makesOddEnd 23 = .ok (.getfield 18, 3) := dOf oX9_makesOddEnd_0 13 rfl
theorem dX9_makesOddEnd_26 : decode cX9_makesOddEnd 26 = .ok (.invokestatic 266, 3) := dOf oX9_makesOddEnd_0 14 rfl
theorem dX9_makesOddEnd_29 : decode cX9_makesOddEnd 29 = .ok (.istore_n 2, 1) := dOf oX9_makesOddEnd_0 15 rfl
theorem dX9_makesOddEnd_30 : decode cX9_makesOddEnd 30 = .ok (.iconst 0, 1) := dOf oX9_makesOddEnd_0 16 rfl
theorem dX9_makesOddEnd_31 : decode cX9_makesOddEnd 31 = .ok (.istore_n 3, 1) := dOf oX9_makesOddEnd_0 17 rfl
theorem dX9_makesOddEnd_32 : decode cX9_makesOddEnd 32 = .ok (.iload_n 3, 1) := dOf oX9_makesOddEnd_0 18 rfl
theorem dX9_makesOddEnd_33 : decode cX9_makesOddEnd 33 = .ok (.aload_n 0, 1) := dOf oX9_makesOddEnd_0 19 rfl
theorem dX9_makesOddEnd_34 : decode cX9_makesOddEnd 34 = .ok (.getfield 27, 3) := dOf oX9_makesOddEnd_0 20 rfl
theorem dX9_makesOddEnd_37 : decode cX9_makesOddEnd 37 = .ok (.if_icmp .ge 40, 3) := dOf oX9_makesOddEnd_0 21 rfl
theorem dX9_makesOddEnd_40 : decode cX9_makesOddEnd 40 = .ok (.aload_n 0, 1) := dOf oX9_makesOddEnd_0 22 rfl
theorem dX9_makesOddEnd_41 : decode cX9_makesOddEnd 41 = .ok (.getfield 23, 3) := dOf oX9_makesOddEnd_0 23 rfl
theorem dX9_makesOddEnd_44 : decode cX9_makesOddEnd 44 = .ok (.iload_n 3, 1) := dOf oX9_makesOddEnd_0 24 rfl
theorem dX9_makesOddEnd_45 : decode cX9_makesOddEnd 45 = .ok (.aaload, 1) := dOf oX9_makesOddEnd_0 25 rfl
theorem dX9_makesOddEnd_46 : decode cX9_makesOddEnd 46 = .ok (.getfield 145, 3) := dOf oX9_makesOddEnd_0 26 rfl
theorem dX9_makesOddEnd_49 : decode cX9_makesOddEnd 49 = .ok (.iconst 1, 1) := dOf oX9_makesOddEnd_0 27 rfl
theorem dX9_makesOddEnd_50 : decode cX9_makesOddEnd 50 = .ok (.if_icmp .ne 21, 3) := dOf oX9_makesOddEnd_0 28 rfl
theorem dX9_makesOddEnd_53 : decode cX9_makesOddEnd 53 = .ok (.aload_n 0, 1) := dOf oX9_makesOddEnd_0 29 rfl
theorem dX9_makesOddEnd_54 : decode cX9_makesOddEnd 54 = .ok (.getfield 23, 3) := dOf oX9_makesOddEnd_0 30 rfl
theorem dX9_makesOddEnd_57 : decode cX9_makesOddEnd 57 = .ok (.iload_n 3, 1) := dOf oX9_makesOddEnd_0 31 rfl
theorem dX9_makesOddEnd_58 : decode cX9_makesOddEnd 58 = .ok (.aaload, 1) := dOf oX9_makesOddEnd_0 32 rfl
theorem dX9_makesOddEnd_59 : decode cX9_makesOddEnd 59 = .ok (.getfield 199, 3) := dOf oX9_makesOddEnd_0 33 rfl
theorem dX9_makesOddEnd_62 : decode cX9_makesOddEnd 62 = .ok (.invokestatic 266, 3) := dOf oX9_makesOddEnd_0 34 rfl
theorem dX9_makesOddEnd_65 : decode cX9_makesOddEnd 65 = .ok (.iload_n 2, 1) := dOf oX9_makesOddEnd_0 35 rfl
theorem dX9_makesOddEnd_66 : decode cX9_makesOddEnd 66 = .ok (.if_icmp .ne 5, 3) := dOf oX9_makesOddEnd_0 36 rfl
theorem dX9_makesOddEnd_69 : decode cX9_makesOddEnd 69 = .ok (.iconst 0, 1) := dOf oX9_makesOddEnd_0 37 rfl
theorem dX9_makesOddEnd_70 : decode cX9_makesOddEnd 70 = .ok (.ireturn, 1) := dOf oX9_makesOddEnd_0 38 rfl
theorem dX9_makesOddEnd_71 : decode cX9_makesOddEnd 71 = .ok (.iinc 3 1, 3) := dOf oX9_makesOddEnd_0 39 rfl
theorem dX9_makesOddEnd_74 : decode cX9_makesOddEnd 74 = .ok (.goto (-42), 3) := dOf oX9_makesOddEnd_0 40 rfl
theorem dX9_makesOddEnd_77 : decode cX9_makesOddEnd 77 = .ok (.iconst 1, 1) := dOf oX9_makesOddEnd_0 41 rfl
theorem dX9_makesOddEnd_78 : decode cX9_makesOddEnd 78 = .ok (.ireturn, 1) := dOf oX9_makesOddEnd_0 42 rfl
def eX9_becomesDone_0 : List (Nat × Instr × Nat) := [(0, .aload_n 0, 1), (1, .aload_n 1, 1), (2, .invokevirtual 181, 3), (5, .ifCond .eq 10, 3), (8, .aload_n 1, 1), (9, .iconst 3, 1), (10, .putfield 145, 3), (13, .iconst 0, 1), (14, .ireturn, 1), (15, .aload_n 1, 1), (16, .iconst 2, 1), (17, .putfield 145, 3), (20, .aload_n 1, 1), (21, .getfield 199, 3), (24, .aload_n 0, 1), (25, .getfield 18, 3), (28, .invokevirtual 239, 3), (31, .iconst 1, 1), (32, .ireturn, 1)]
theorem oX9_becomesDone_0 : okC cX9_becomesDone eX9_becomesDone_0 = true := by decide +kernel
theorem dX9_becomesDone_0 : decode cX9_becomesDone 0 = .ok (.aload_n 0, 1) := dOf oX9_becomesDone_0 0 rfl
theorem dX9_becomesDone_1 : decode cX9_becomesDone 1 = .ok (.aload_n 1, 1) := dOf oX9_becomesDone_0 1 rfl
theorem dX9_becomesDone_2 : decode cX9_becomesDone 2 = .ok (.invokevirtual 181, 3) := dOf oX9_becomesDone_0 2 rfl
theorem dX9_becomesDone_5 : decode cX9_becomesDone 5 = .ok (.ifCond .eq 10, 3) := dOf oX9_becomesDone_0 3 rfl
theorem dX9_becomesDone_8 : decode cX9_becomesDone 8 = .ok (.aload_n 1, 1) := dOf oX9_becomesDone_0 4 rfl
theorem dX9_becomesDone_9 : decode cX9_becomesDone 9 = .ok (.iconst 3, 1) := dOf oX9_becomesDone_0 5 rfl
theorem dX9_becomesDone_10 : decode cX9_becomesDone 10 = .ok (.putfield 145, 3) := dOf oX9_becomesDone_0 6 rfl
theorem dX9_becomesDone_13 : decode cX9_becomesDone 13 = .ok (.iconst 0, 1) := dOf oX9_becomesDone_0 7 rfl
theorem dX9_becomesDone_14 : decode cX9_becomesDone 14 = .ok (.ireturn, 1) := dOf oX9_becomesDone_0 8 rfl
theorem dX9_becomesDone_15 : decode cX9_becomesDone 15 = .ok (.aload_n 1, 1) := dOf oX9_becomesDone_0 9 rfl
theorem dX9_becomesDone_16 : decode cX9_becomesDone 16 = .ok (.iconst 2, 1) := dOf oX9_becomesDone_0 10 rfl
theorem dX9_becomesDone_17 : decode cX9_becomesDone 17 = .ok (.putfield 145, 3) := dOf oX9_becomesDone_0 11 rfl
theorem dX9_becomesDone_20 : decode cX9_becomesDone 20 = .ok (.aload_n 1, 1) := dOf oX9_becomesDone_0 12 rfl
theorem dX9_becomesDone_21 : decode cX9_becomesDone 21 = .ok (.getfield 199, 3) := dOf oX9_becomesDone_0 13 rfl
theorem dX9_becomesDone_24 : decode cX9_becomesDone 24 = .ok (.aload_n 0, 1) := dOf oX9_becomesDone_0 14 rfl
theorem dX9_becomesDone_25 : decode cX9_becomesDone 25 = .ok (.getfield 18, 3) := dOf oX9_becomesDone_0 15 rfl
theorem dX9_becomesDone_28 : decode cX9_becomesDone 28 = .ok (.invokevirtual 239, 3) := dOf oX9_becomesDone_0 16 rfl
theorem dX9_becomesDone_31 : decode cX9_becomesDone 31 = .ok (.iconst 1, 1) := dOf oX9_becomesDone_0 17 rfl
theorem dX9_becomesDone_32 : decode cX9_becomesDone 32 = .ok (.ireturn, 1) := dOf oX9_becomesDone_0 18 rfl
def eX9_rememberDoing_0 : List (Nat × Instr × Nat) := [(0, .aload_n 0, 1), (1, .getfield 56, 3), (4, .sipush 512, 3), (7, .if_icmp .ge 23, 3), (10, .aload_n 0, 1), (11, .getfield 52, 3), (14, .aload_n 0, 1), (15, .getfield 56, 3), (18, .iload_n 1, 1), (19, .iastore, 1), (20, .aload_n 0, 1), (21, .dup, 1), (22, .getfield 56, 3), (25, .iconst 1, 1), (26, .iadd, 1), (27, .putfield 56, 3), (30, .return_, 1)]
theorem oX9_rememberDoing_0 : okC cX9_rememberDoing eX9_rememberDoing_0 = true := by decide +kernel
theorem dX9_rememberDoing_0 : decode cX9_rememberDoing 0 = .ok (.aload_n 0, 1) := dOf oX9_rememberDoing_0 0 rfl
theorem dX9_rememberDoing_1 : decode cX9_rememberDoing 1 = .ok (.getfield 56, 3) := dOf oX9_rememberDoing_0 1 rfl
theorem dX9_rememberDoing_4 : decode cX9_rememberDoing 4 = .ok (.sipush 512, 3) := dOf oX9_rememberDoing_0 2 rfl
theorem dX9_rememberDoing_7 : decode cX9_rememberDoing 7 = .ok (.if_icmp .ge 23, 3) := dOf oX9_rememberDoing_0 3 rfl
theorem dX9_rememberDoing_10 : decode cX9_rememberDoing 10 = .ok (.aload_n 0, 1) := dOf oX9_rememberDoing_0 4 rfl
theorem dX9_rememberDoing_11 : decode cX9_rememberDoing 11 = .ok (.getfield 52, 3) := dOf oX9_rememberDoing_0 5 rfl
theorem dX9_rememberDoing_14 : decode cX9_rememberDoing 14 = .ok (.aload_n 0, 1) := dOf oX9_rememberDoing_0 6 rfl
theorem dX9_rememberDoing_15 : decode cX9_rememberDoing 15 = .ok (.getfield 56, 3) := dOf oX9_rememberDoing_0 7 rfl
theorem dX9_rememberDoing_18 : decode cX9_rememberDoing 18 = .ok (.iload_n 1, 1) := dOf oX9_rememberDoing_0 8 rfl
theorem dX9_rememberDoing_19 : decode cX9_rememberDoing 19 = .ok (.iastore, 1) := dOf oX9_rememberDoing_0 9 rfl
theorem dX9_rememberDoing_20 : decode cX9_rememberDoing 20 = .ok (.aload_n 0, 1) := dOf oX9_rememberDoing_0 10 rfl
theorem dX9_rememberDoing_21 : decode cX9_rememberDoing 21 = .ok (.dup, 1) := dOf oX9_rememberDoing_0 11 rfl
theorem dX9_rememberDoing_22 : decode cX9_rememberDoing 22 = .ok (.getfield 56, 3) := dOf oX9_rememberDoing_0 12 rfl
theorem dX9_rememberDoing_25 : decode cX9_rememberDoing 25 = .ok (.iconst 1, 1) := dOf oX9_rememberDoing_0 13 rfl
theorem dX9_rememberDoing_26 : decode cX9_rememberDoing 26 = .ok (.iadd, 1) := dOf oX9_rememberDoing_0 14 rfl
theorem dX9_rememberDoing_27 : decode cX9_rememberDoing 27 = .ok (.putfield 56, 3) := dOf oX9_rememberDoing_0 15 rfl
theorem dX9_rememberDoing_30 : decode cX9_rememberDoing 30 = .ok (.return_, 1) := dOf oX9_rememberDoing_0 16 rfl
def eX9_keepProgram_0 : List (Nat × Instr × Nat) := [(0, .aload_n 0, 1), (1, .getfield 65, 3), (4, .iconst 4, 1), (5, .if_icmp .lt 6, 3), (8, .bipush (-3), 2), (10, .ireturn, 1), (11, .aload_n 0, 1), (12, .getfield 61, 3), (15, .aload_n 0, 1), (16, .getfield 65, 3), (19, .aaload, 1), (20, .aload_n 1, 1), (21, .invokevirtual 271, 3), (24, .aload_n 0, 1), (25, .dup, 1), (26, .getfield 65, 3), (29, .iconst 1, 1), (30, .iadd, 1), (31, .putfield 65, 3), (34, .aload_n 0, 1), (35, .getfield 65, 3), (38, .iconst 1, 1), (39, .isub, 1), (40, .ireturn, 1)]
theorem oX9_keepProgram_0 : okC cX9_keepProgram eX9_keepProgram_0 = true := by decide +kernel
theorem dX9_keepProgram_0 : decode cX9_keepProgram 0 = .ok (.aload_n 0, 1) := dOf oX9_keepProgram_0 0 rfl
theorem dX9_keepProgram_1 : decode cX9_keepProgram 1 = .ok (.getfield 65, 3) := dOf oX9_keepProgram_0 1 rfl
theorem dX9_keepProgram_4 : decode cX9_keepProgram 4 = .ok (.iconst 4, 1) := dOf oX9_keepProgram_0 2 rfl
theorem dX9_keepProgram_5 : decode cX9_keepProgram 5 = .ok (.if_icmp .lt 6, 3) := dOf oX9_keepProgram_0 3 rfl
theorem dX9_keepProgram_8 : decode cX9_keepProgram 8 = .ok (.bipush (-3), 2) := dOf oX9_keepProgram_0 4 rfl
theorem dX9_keepProgram_10 : decode cX9_keepProgram 10 = .ok (.ireturn, 1) := dOf oX9_keepProgram_0 5 rfl
theorem dX9_keepProgram_11 : decode cX9_keepProgram 11 = .ok (.aload_n 0, 1) := dOf oX9_keepProgram_0 6 rfl
theorem dX9_keepProgram_12 : decode cX9_keepProgram 12 = .ok (.getfield 61, 3) := dOf oX9_keepProgram_0 7 rfl
theorem dX9_keepProgram_15 : decode cX9_keepProgram 15 = .ok (.aload_n 0, 1) := dOf oX9_keepProgram_0 8 rfl
theorem dX9_keepProgram_16 : decode cX9_keepProgram 16 = .ok (.getfield 65, 3) := dOf oX9_keepProgram_0 9 rfl
theorem dX9_keepProgram_19 : decode cX9_keepProgram 19 = .ok (.aaload, 1) := dOf oX9_keepProgram_0 10 rfl
theorem dX9_keepProgram_20 : decode cX9_keepProgram 20 = .ok (.aload_n 1, 1) := dOf oX9_keepProgram_0 11 rfl
theorem dX9_keepProgram_21 : decode cX9_keepProgram 21 = .ok (.invokevirtual 271, 3) := dOf oX9_keepProgram_0 12 rfl
theorem dX9_keepProgram_24 : decode cX9_keepProgram 24 = .ok (.aload_n 0, 1) := dOf oX9_keepProgram_0 13 rfl
theorem dX9_keepProgram_25 : decode cX9_keepProgram 25 = .ok (.dup, 1) := dOf oX9_keepProgram_0 14 rfl
theorem dX9_keepProgram_26 : decode cX9_keepProgram 26 = .ok (.getfield 65, 3) := dOf oX9_keepProgram_0 15 rfl
theorem dX9_keepProgram_29 : decode cX9_keepProgram 29 = .ok (.iconst 1, 1) := dOf oX9_keepProgram_0 16 rfl
theorem dX9_keepProgram_30 : decode cX9_keepProgram 30 = .ok (.iadd, 1) := dOf oX9_keepProgram_0 17 rfl
theorem dX9_keepProgram_31 : decode cX9_keepProgram 31 = .ok (.putfield 65, 3) := dOf oX9_keepProgram_0 18 rfl
theorem dX9_keepProgram_34 : decode cX9_keepProgram 34 = .ok (.aload_n 0, 1) := dOf oX9_keepProgram_0 19 rfl
theorem dX9_keepProgram_35 : decode cX9_keepProgram 35 = .ok (.getfield 65, 3) := dOf oX9_keepProgram_0 20 rfl
theorem dX9_keepProgram_38 : decode cX9_keepProgram 38 = .ok (.iconst 1, 1) := dOf oX9_keepProgram_0 21 rfl
theorem dX9_keepProgram_39 : decode cX9_keepProgram 39 = .ok (.isub, 1) := dOf oX9_keepProgram_0 22 rfl
theorem dX9_keepProgram_40 : decode cX9_keepProgram 40 = .ok (.ireturn, 1) := dOf oX9_keepProgram_0 23 rfl
def eX10_in_0 : List (Nat × Instr × Nat) := [(0, .lload_n 0, 1), (1, .lload_n 2, 1), (2, .lcmp, 1), (3, .ifCond .lt 14, 3), (6, .lload_n 0, 1), (7, .lload 4, 2), (9, .lcmp, 1), (10, .ifCond .gt 7, 3), (13, .iconst 1, 1), (14, .goto 4, 3), (17, .iconst 0, 1), (18, .ireturn, 1)]
theorem oX10_in_0 : okC cX10_in eX10_in_0 = true := by decide +kernel
theorem dX10_in_0 : decode cX10_in 0 = .ok (.lload_n 0, 1) := dOf oX10_in_0 0 rfl
theorem dX10_in_1 : decode cX10_in 1 = .ok (.lload_n 2, 1) := dOf oX10_in_0 1 rfl
theorem dX10_in_2 : decode cX10_in 2 = .ok (.lcmp, 1) := dOf oX10_in_0 2 rfl
theorem dX10_in_3 : decode cX10_in 3 = .ok (.ifCond .lt 14, 3) := dOf oX10_in_0 3 rfl
theorem dX10_in_6 : decode cX10_in 6 = .ok (.lload_n 0, 1) := dOf oX10_in_0 4 rfl
theorem dX10_in_7 : decode cX10_in 7 = .ok (.lload 4, 2) := dOf oX10_in_0 5 rfl
theorem dX10_in_9 : decode cX10_in 9 = .ok (.lcmp, 1) := dOf oX10_in_0 6 rfl
theorem dX10_in_10 : decode cX10_in 10 = .ok (.ifCond .gt 7, 3) := dOf oX10_in_0 7 rfl
theorem dX10_in_13 : decode cX10_in 13 = .ok (.iconst 1, 1) := dOf oX10_in_0 8 rfl
theorem dX10_in_14 : decode cX10_in 14 = .ok (.goto 4, 3) := dOf oX10_in_0 9 rfl
theorem dX10_in_17 : decode cX10_in 17 = .ok (.iconst 0, 1) := dOf oX10_in_0 10 rfl
theorem dX10_in_18 : decode cX10_in 18 = .ok (.ireturn, 1) := dOf oX10_in_0 11 rfl
def eX10_init_0 : List (Nat × Instr × Nat) := [(0, .aload_n 0, 1), (1, .invokespecial 1, 3), (4, .aload_n 0, 1), (5, .sipush 192, 3), (8, .newarray .int, 2), (10, .putfield 7, 3), (13, .aload_n 0, 1), (14, .bipush 12, 2), (16, .newarray .int, 2), (18, .putfield 13, 3), (21, .aload_n 0, 1), (22, .bipush 12, 2), (24, .newarray .int, 2), (26, .putfield 16, 3), (29, .aload_n 0, 1), (30, .sipush 432, 3), (33, .newarray .int, 2), (35, .putfield 19, 3), (38, .aload_n 0, 1), (39, .bipush 12, 2), (41, .newarray .int, 2), (43, .putfield 22, 3), (46, .aload_n 0, 1), (47, .bipush 12, 2), (49, .newarray .int, 2), (51, .putfield 25, 3), (54, .aload_n 0, 1), (55, .bipush 60, 2), (57, .newarray .int, 2), (59, .putfield 28, 3), (62, .aload_n 0, 1), (63, .bipush 36, 2), (65, .newarray .int, 2), (67, .putfield 31, 3), (70, .aload_n 0, 1), (71, .iconst 4, 1), (72, .newarray .int, 2), (74, .putfield 34, 3), (77, .aload_n 0, 1), (78, .sipush 4803, 3), (81, .newarray .int, 2), (83, .putfield 37, 3), (86, .aload_n 0, 1), (87, .sipush 4803, 3), (90, .newarray .int, 2), (92, .putfield 40, 3), (95, .aload_n 0, 1), (96, .sipush 4803, 3), (99, .newarray .int, 2), (101, .putfield 43, 3), (104, .aload_n 0, 1), (105, .sipush 4803, 3), (108, .newarray .int, 2), (110, .putfield 46, 3), (113, .aload_n 0, 1), (114, .ldc 49, 2), (116, .newarray .int, 2), (118, .putfield 50, 3), (121, .aload_n 0, 1), (122, .sipush 192, 3)]
theorem oX10_init_0 : okC cX10_init eX10_init_0 = true := by decide +kernel
theorem dX10_init_0 : decode cX10_init 0 = .ok (.aload_n 0, 1) := dOf oX10_init_0 0 rfl
theorem dX10_init_1 : decode cX10_init 1 = .ok (.invokespecial 1, 3) := dOf oX10_init_0 1 rfl
theorem dX10_init_4 : decode cX10_init 4 = .ok (.aload_n 0, 1) := dOf oX10_init_0 2 rfl
theorem dX10_init_5 : decode cX10_init 5 = .ok (.sipush 192, 3) := dOf oX10_init_0 3 rfl
theorem dX10_init_8 : decode cX10_init 8 = .ok (.newarray .int, 2) := dOf oX10_init_0 4 rfl
theorem dX10_init_10 : decode cX10_init 10 = .ok (.putfield 7, 3) := dOf oX10_init_0 5 rfl
theorem dX10_init_13 : decode cX10_init 13 = .ok (.aload_n 0, 1) := dOf oX10_init_0 6 rfl
theorem dX10_init_14 : decode cX10_init 14 = .ok (.bipush 12, 2) := dOf oX10_init_0 7 rfl
theorem dX10_init_16 : decode cX10_init 16 = .ok (.newarray .int, 2) := dOf oX10_init_0 8 rfl
theorem dX10_init_18 : decode cX10_init 18 = .ok (.putfield 13, 3) := dOf oX10_init_0 9 rfl
theorem dX10_init_21 : decode cX10_init 21 = .ok (.aload_n 0, 1) := dOf oX10_init_0 10 rfl
theorem dX10_init_22 : decode cX10_init 22 = .ok (.bipush 12, 2) := dOf oX10_init_0 11 rfl
theorem dX10_init_24 : decode cX10_init 24 = .ok (.newarray .int, 2) := dOf oX10_init_0 12 rfl
theorem dX10_init_26 : decode cX10_init 26 = .ok (.putfield 16, 3) := dOf oX10_init_0 13 rfl
theorem dX10_init_29 : decode cX10_init 29 = .ok (.aload_n 0, 1) := dOf oX10_init_0 14 rfl
theorem dX10_init_30 : decode cX10_init 30 = .ok (.sipush 432, 3) := dOf oX10_init_0 15 rfl
theorem dX10_init_33 : decode cX10_init 33 = .ok (.newarray .int, 2) := dOf oX10_init_0 16 rfl
theorem dX10_init_35 : decode cX10_init 35 = .ok (.putfield 19, 3) := dOf oX10_init_0 17 rfl
theorem dX10_init_38 : decode cX10_init 38 = .ok (.aload_n 0, 1) := dOf oX10_init_0 18 rfl
theorem dX10_init_39 : decode cX10_init 39 = .ok (.bipush 12, 2) := dOf oX10_init_0 19 rfl
theorem dX10_init_41 : decode cX10_init 41 = .ok (.newarray .int, 2) := dOf oX10_init_0 20 rfl
theorem dX10_init_43 : decode cX10_init 43 = .ok (.putfield 22, 3) := dOf oX10_init_0 21 rfl
theorem dX10_init_46 : decode cX10_init 46 = .ok (.aload_n 0, 1) := dOf oX10_init_0 22 rfl
theorem dX10_init_47 : decode cX10_init 47 = .ok (.bipush 12, 2) := dOf oX10_init_0 23 rfl
theorem dX10_init_49 : decode cX10_init 49 = .ok (.newarray .int, 2) := dOf oX10_init_0 24 rfl
theorem dX10_init_51 : decode cX10_init 51 = .ok (.putfield 25, 3) := dOf oX10_init_0 25 rfl
theorem dX10_init_54 : decode cX10_init 54 = .ok (.aload_n 0, 1) := dOf oX10_init_0 26 rfl
theorem dX10_init_55 : decode cX10_init 55 = .ok (.bipush 60, 2) := dOf oX10_init_0 27 rfl
theorem dX10_init_57 : decode cX10_init 57 = .ok (.newarray .int, 2) := dOf oX10_init_0 28 rfl
theorem dX10_init_59 : decode cX10_init 59 = .ok (.putfield 28, 3) := dOf oX10_init_0 29 rfl
theorem dX10_init_62 : decode cX10_init 62 = .ok (.aload_n 0, 1) := dOf oX10_init_0 30 rfl
theorem dX10_init_63 : decode cX10_init 63 = .ok (.bipush 36, 2) := dOf oX10_init_0 31 rfl
theorem dX10_init_65 : decode cX10_init 65 = .ok (.newarray .int, 2) := dOf oX10_init_0 32 rfl
theorem dX10_init_67 : decode cX10_init 67 = .ok (.putfield 31, 3) := dOf oX10_init_0 33 rfl
theorem dX10_init_70 : decode cX10_init 70 = .ok (.aload_n 0, 1) := dOf oX10_init_0 34 rfl
theorem dX10_init_71 : decode cX10_init 71 = .ok (.iconst 4, 1) := dOf oX10_init_0 35 rfl
theorem dX10_init_72 : decode cX10_init 72 = .ok (.newarray .int, 2) := dOf oX10_init_0 36 rfl
theorem dX10_init_74 : decode cX10_init 74 = .ok (.putfield 34, 3) := dOf oX10_init_0 37 rfl
theorem dX10_init_77 : decode cX10_init 77 = .ok (.aload_n 0, 1) := dOf oX10_init_0 38 rfl
theorem dX10_init_78 : decode cX10_init 78 = .ok (.sipush 4803, 3) := dOf oX10_init_0 39 rfl
theorem dX10_init_81 : decode cX10_init 81 = .ok (.newarray .int, 2) := dOf oX10_init_0 40 rfl
theorem dX10_init_83 : decode cX10_init 83 = .ok (.putfield 37, 3) := dOf oX10_init_0 41 rfl
theorem dX10_init_86 : decode cX10_init 86 = .ok (.aload_n 0, 1) := dOf oX10_init_0 42 rfl
theorem dX10_init_87 : decode cX10_init 87 = .ok (.sipush 4803, 3) := dOf oX10_init_0 43 rfl
theorem dX10_init_90 : decode cX10_init 90 = .ok (.newarray .int, 2) := dOf oX10_init_0 44 rfl
theorem dX10_init_92 : decode cX10_init 92 = .ok (.putfield 40, 3) := dOf oX10_init_0 45 rfl
theorem dX10_init_95 : decode cX10_init 95 = .ok (.aload_n 0, 1) := dOf oX10_init_0 46 rfl
theorem dX10_init_96 : decode cX10_init 96 = .ok (.sipush 4803, 3) := dOf oX10_init_0 47 rfl
theorem dX10_init_99 : decode cX10_init 99 = .ok (.newarray .int, 2) := dOf oX10_init_0 48 rfl
theorem dX10_init_101 : decode cX10_init 101 = .ok (.putfield 43, 3) := dOf oX10_init_0 49 rfl
theorem dX10_init_104 : decode cX10_init 104 = .ok (.aload_n 0, 1) := dOf oX10_init_0 50 rfl
theorem dX10_init_105 : decode cX10_init 105 = .ok (.sipush 4803, 3) := dOf oX10_init_0 51 rfl
theorem dX10_init_108 : decode cX10_init 108 = .ok (.newarray .int, 2) := dOf oX10_init_0 52 rfl
theorem dX10_init_110 : decode cX10_init 110 = .ok (.putfield 46, 3) := dOf oX10_init_0 53 rfl
theorem dX10_init_113 : decode cX10_init 113 = .ok (.aload_n 0, 1) := dOf oX10_init_0 54 rfl
theorem dX10_init_114 : decode cX10_init 114 = .ok (.ldc 49, 2) := dOf oX10_init_0 55 rfl
theorem dX10_init_116 : decode cX10_init 116 = .ok (.newarray .int, 2) := dOf oX10_init_0 56 rfl
theorem dX10_init_118 : decode cX10_init 118 = .ok (.putfield 50, 3) := dOf oX10_init_0 57 rfl
theorem dX10_init_121 : decode cX10_init 121 = .ok (.aload_n 0, 1) := dOf oX10_init_0 58 rfl
theorem dX10_init_122 : decode cX10_init 122 = .ok (.sipush 192, 3) := dOf oX10_init_0 59 rfl
def eX10_init_1 : List (Nat × Instr × Nat) := [(125, .newarray .int, 2), (127, .putfield 53, 3), (130, .aload_n 0, 1), (131, .sipush 2304, 3), (134, .newarray .int, 2), (136, .putfield 56, 3), (139, .aload_n 0, 1), (140, .bipush 64, 2), (142, .newarray .int, 2), (144, .putfield 59, 3), (147, .aload_n 0, 1), (148, .bipush 36, 2), (150, .newarray .int, 2), (152, .putfield 62, 3), (155, .aload_n 0, 1), (156, .bipush 12, 2), (158, .newarray .int, 2), (160, .putfield 65, 3), (163, .aload_n 0, 1), (164, .iconst 3, 1), (165, .newarray .int, 2), (167, .putfield 68, 3), (170, .aload_n 0, 1), (171, .iconst 4, 1), (172, .newarray .int, 2), (174, .putfield 71, 3), (177, .aload_n 0, 1), (178, .iconst 4, 1), (179, .newarray .int, 2), (181, .putfield 74, 3), (184, .aload_n 0, 1), (185, .bipush 80, 2), (187, .newarray .int, 2), (189, .putfield 77, 3), (192, .iconst 0, 1), (193, .istore_n 1, 1), (194, .iload_n 1, 1), (195, .iconst 4, 1), (196, .if_icmp .ge 16, 3), (199, .aload_n 0, 1), (200, .getfield 71, 3), (203, .iload_n 1, 1), (204, .iconst (-1), 1), (205, .iastore, 1), (206, .iinc 1 1, 3), (209, .goto (-15), 3), (212, .return_, 1)]
theorem oX10_init_1 : okC cX10_init eX10_init_1 = true := by decide +kernel
theorem dX10_init_125 : decode cX10_init 125 = .ok (.newarray .int, 2) := dOf oX10_init_1 0 rfl
theorem dX10_init_127 : decode cX10_init 127 = .ok (.putfield 53, 3) := dOf oX10_init_1 1 rfl
theorem dX10_init_130 : decode cX10_init 130 = .ok (.aload_n 0, 1) := dOf oX10_init_1 2 rfl
theorem dX10_init_131 : decode cX10_init 131 = .ok (.sipush 2304, 3) := dOf oX10_init_1 3 rfl
theorem dX10_init_134 : decode cX10_init 134 = .ok (.newarray .int, 2) := dOf oX10_init_1 4 rfl
theorem dX10_init_136 : decode cX10_init 136 = .ok (.putfield 56, 3) := dOf oX10_init_1 5 rfl
theorem dX10_init_139 : decode cX10_init 139 = .ok (.aload_n 0, 1) := dOf oX10_init_1 6 rfl
theorem dX10_init_140 : decode cX10_init 140 = .ok (.bipush 64, 2) := dOf oX10_init_1 7 rfl
theorem dX10_init_142 : decode cX10_init 142 = .ok (.newarray .int, 2) := dOf oX10_init_1 8 rfl
theorem dX10_init_144 : decode cX10_init 144 = .ok (.putfield 59, 3) := dOf oX10_init_1 9 rfl
theorem dX10_init_147 : decode cX10_init 147 = .ok (.aload_n 0, 1) := dOf oX10_init_1 10 rfl
theorem dX10_init_148 : decode cX10_init 148 = .ok (.bipush 36, 2) := dOf oX10_init_1 11 rfl
theorem dX10_init_150 : decode cX10_init 150 = .ok (.newarray .int, 2) := dOf oX10_init_1 12 rfl
theorem dX10_init_152 : decode cX10_init 152 = .ok (.putfield 62, 3) := dOf oX10_init_1 13 rfl
theorem dX10_init_155 : decode cX10_init 155 = .ok (.aload_n 0, 1) := dOf oX10_init_1 14 rfl
theorem dX10_init_156 : decode cX10_init 156 = .ok (.bipush 12, 2) := dOf oX10_init_1 15 rfl
theorem dX10_init_158 : decode cX10_init 158 = .ok (.newarray .int, 2) := dOf oX10_init_1 16 rfl
theorem dX10_init_160 : decode cX10_init 160 = .ok (.putfield 65, 3) := dOf oX10_init_1 17 rfl
theorem dX10_init_163 : decode cX10_init 163 = .ok (.aload_n 0, 1) := dOf oX10_init_1 18 rfl
theorem dX10_init_164 : decode cX10_init 164 = .ok (.iconst 3, 1) := dOf oX10_init_1 19 rfl
theorem dX10_init_165 : decode cX10_init 165 = .ok (.newarray .int, 2) := dOf oX10_init_1 20 rfl
theorem dX10_init_167 : decode cX10_init 167 = .ok (.putfield 68, 3) := dOf oX10_init_1 21 rfl
theorem dX10_init_170 : decode cX10_init 170 = .ok (.aload_n 0, 1) := dOf oX10_init_1 22 rfl
theorem dX10_init_171 : decode cX10_init 171 = .ok (.iconst 4, 1) := dOf oX10_init_1 23 rfl
theorem dX10_init_172 : decode cX10_init 172 = .ok (.newarray .int, 2) := dOf oX10_init_1 24 rfl
theorem dX10_init_174 : decode cX10_init 174 = .ok (.putfield 71, 3) := dOf oX10_init_1 25 rfl
theorem dX10_init_177 : decode cX10_init 177 = .ok (.aload_n 0, 1) := dOf oX10_init_1 26 rfl
theorem dX10_init_178 : decode cX10_init 178 = .ok (.iconst 4, 1) := dOf oX10_init_1 27 rfl
theorem dX10_init_179 : decode cX10_init 179 = .ok (.newarray .int, 2) := dOf oX10_init_1 28 rfl
theorem dX10_init_181 : decode cX10_init 181 = .ok (.putfield 74, 3) := dOf oX10_init_1 29 rfl
theorem dX10_init_184 : decode cX10_init 184 = .ok (.aload_n 0, 1) := dOf oX10_init_1 30 rfl
theorem dX10_init_185 : decode cX10_init 185 = .ok (.bipush 80, 2) := dOf oX10_init_1 31 rfl
theorem dX10_init_187 : decode cX10_init 187 = .ok (.newarray .int, 2) := dOf oX10_init_1 32 rfl
theorem dX10_init_189 : decode cX10_init 189 = .ok (.putfield 77, 3) := dOf oX10_init_1 33 rfl
theorem dX10_init_192 : decode cX10_init 192 = .ok (.iconst 0, 1) := dOf oX10_init_1 34 rfl
theorem dX10_init_193 : decode cX10_init 193 = .ok (.istore_n 1, 1) := dOf oX10_init_1 35 rfl
theorem dX10_init_194 : decode cX10_init 194 = .ok (.iload_n 1, 1) := dOf oX10_init_1 36 rfl
theorem dX10_init_195 : decode cX10_init 195 = .ok (.iconst 4, 1) := dOf oX10_init_1 37 rfl
theorem dX10_init_196 : decode cX10_init 196 = .ok (.if_icmp .ge 16, 3) := dOf oX10_init_1 38 rfl
theorem dX10_init_199 : decode cX10_init 199 = .ok (.aload_n 0, 1) := dOf oX10_init_1 39 rfl
theorem dX10_init_200 : decode cX10_init 200 = .ok (.getfield 71, 3) := dOf oX10_init_1 40 rfl
theorem dX10_init_203 : decode cX10_init 203 = .ok (.iload_n 1, 1) := dOf oX10_init_1 41 rfl
theorem dX10_init_204 : decode cX10_init 204 = .ok (.iconst (-1), 1) := dOf oX10_init_1 42 rfl
theorem dX10_init_205 : decode cX10_init 205 = .ok (.iastore, 1) := dOf oX10_init_1 43 rfl
theorem dX10_init_206 : decode cX10_init 206 = .ok (.iinc 1 1, 3) := dOf oX10_init_1 44 rfl
theorem dX10_init_209 : decode cX10_init 209 = .ok (.goto (-15), 3) := dOf oX10_init_1 45 rfl
theorem dX10_init_212 : decode cX10_init 212 = .ok (.return_, 1) := dOf oX10_init_1 46 rfl
def eX10_isThing_0 : List (Nat × Instr × Nat) := [(0, .iload_n 1, 1), (1, .i2l, 1), (2, .lconst 0, 1), (3, .aload_n 0, 1), (4, .getfield 80, 3), (7, .iconst 1, 1), (8, .isub, 1), (9, .i2l, 1), (10, .invokestatic 84, 3), (13, .ireturn, 1)]
theorem oX10_isThing_0 : okC cX10_isThing eX10_isThing_0 = true := by decide +kernel
theorem dX10_isThing_0 : decode cX10_isThing 0 = .ok (.iload_n 1, 1) := dOf oX10_isThing_0 0 rfl
theorem dX10_isThing_1 : decode cX10_isThing 1 = .ok (.i2l, 1) := dOf oX10_isThing_0 1 rfl
theorem dX10_isThing_2 : decode cX10_isThing 2 = .ok (.lconst 0, 1) := dOf oX10_isThing_0 2 rfl
theorem dX10_isThing_3 : decode cX10_isThing 3 = .ok (.aload_n 0, 1) := dOf oX10_isThing_0 3 rfl
theorem dX10_isThing_4 : decode cX10_isThing 4 = .ok (.getfield 80, 3) := dOf oX10_isThing_0 4 rfl
theorem dX10_isThing_7 : decode cX10_isThing 7 = .ok (.iconst 1, 1) := dOf oX10_isThing_0 5 rfl
theorem dX10_isThing_8 : decode cX10_isThing 8 = .ok (.isub, 1) := dOf oX10_isThing_0 6 rfl
theorem dX10_isThing_9 : decode cX10_isThing 9 = .ok (.i2l, 1) := dOf oX10_isThing_0 7 rfl
theorem dX10_isThing_10 : decode cX10_isThing 10 = .ok (.invokestatic 84, 3) := dOf oX10_isThing_0 8 rfl
theorem dX10_isThing_13 : decode cX10_isThing 13 = .ok (.ireturn, 1) := dOf oX10_isThing_0 9 rfl
def eX10_type_0 : List (Nat × Instr × Nat) := [(0, .iload_n 3, 1), (1, .i2l, 1), (2, .lconst 1, 1), (3, .ldc2_w 88, 3), (6, .invokestatic 84, 3), (9, .ifCond .ne 5, 3), (12, .iconst (-1), 1), (13, .ireturn, 1), (14, .iload_n 3, 1), (15, .iconst 1, 1), (16, .isub, 1), (17, .istore 4, 2), (19, .iload 4, 2), (21, .ifCond .lt 34, 3), (24, .lload_n 1, 1), (25, .bipush 8, 2), (27, .iload 4, 2), (29, .imul, 1), (30, .lshr, 1), (31, .ldc2_w 90, 3), (34, .land, 1), (35, .ldc2_w 92, 3), (38, .ldc2_w 94, 3), (41, .invokestatic 84, 3), (44, .ifCond .ne 5, 3), (47, .iconst (-1), 1), (48, .ireturn, 1), (49, .iinc 4 (-1), 3), (52, .goto (-33), 3), (55, .aload_n 0, 1), (56, .getfield 96, 3), (59, .iload_n 3, 1), (60, .iadd, 1), (61, .bipush 60, 2), (63, .if_icmp .le 6, 3), (66, .bipush (-3), 2), (68, .ireturn, 1), (69, .iload_n 3, 1), (70, .iconst 1, 1), (71, .isub, 1), (72, .istore 4, 2), (74, .iload 4, 2), (76, .ifCond .lt 40, 3), (79, .aload_n 0, 1), (80, .getfield 28, 3), (83, .aload_n 0, 1), (84, .getfield 96, 3), (87, .lload_n 1, 1), (88, .bipush 8, 2), (90, .iload 4, 2), (92, .imul, 1), (93, .lshr, 1), (94, .ldc2_w 90, 3), (97, .land, 1), (98, .l2i, 1), (99, .iastore, 1), (100, .aload_n 0, 1), (101, .dup, 1), (102, .getfield 96, 3), (105, .iconst 1, 1)]
theorem oX10_type_0 : okC cX10_type eX10_type_0 = true := by decide +kernel
theorem dX10_type_0 : decode cX10_type 0 = .ok (.iload_n 3, 1) := dOf oX10_type_0 0 rfl
theorem dX10_type_1 : decode cX10_type 1 = .ok (.i2l, 1) := dOf oX10_type_0 1 rfl
theorem dX10_type_2 : decode cX10_type 2 = .ok (.lconst 1, 1) := dOf oX10_type_0 2 rfl
theorem dX10_type_3 : decode cX10_type 3 = .ok (.ldc2_w 88, 3) := dOf oX10_type_0 3 rfl
theorem dX10_type_6 : decode cX10_type 6 = .ok (.invokestatic 84, 3) := dOf oX10_type_0 4 rfl
theorem dX10_type_9 : decode cX10_type 9 = .ok (.ifCond .ne 5, 3) := dOf oX10_type_0 5 rfl
theorem dX10_type_12 : decode cX10_type 12 = .ok (.iconst (-1), 1) := dOf oX10_type_0 6 rfl
theorem dX10_type_13 : decode cX10_type 13 = .ok (.ireturn, 1) := dOf oX10_type_0 7 rfl
theorem dX10_type_14 : decode cX10_type 14 = .ok (.iload_n 3, 1) := dOf oX10_type_0 8 rfl
theorem dX10_type_15 : decode cX10_type 15 = .ok (.iconst 1, 1) := dOf oX10_type_0 9 rfl
theorem dX10_type_16 : decode cX10_type 16 = .ok (.isub, 1) := dOf oX10_type_0 10 rfl
theorem dX10_type_17 : decode cX10_type 17 = .ok (.istore 4, 2) := dOf oX10_type_0 11 rfl
theorem dX10_type_19 : decode cX10_type 19 = .ok (.iload 4, 2) := dOf oX10_type_0 12 rfl
theorem dX10_type_21 : decode cX10_type 21 = .ok (.ifCond .lt 34, 3) := dOf oX10_type_0 13 rfl
theorem dX10_type_24 : decode cX10_type 24 = .ok (.lload_n 1, 1) := dOf oX10_type_0 14 rfl
theorem dX10_type_25 : decode cX10_type 25 = .ok (.bipush 8, 2) := dOf oX10_type_0 15 rfl
theorem dX10_type_27 : decode cX10_type 27 = .ok (.iload 4, 2) := dOf oX10_type_0 16 rfl
theorem dX10_type_29 : decode cX10_type 29 = .ok (.imul, 1) := dOf oX10_type_0 17 rfl
theorem dX10_type_30 : decode cX10_type 30 = .ok (.lshr, 1) := dOf oX10_type_0 18 rfl
theorem dX10_type_31 : decode cX10_type 31 = .ok (.ldc2_w 90, 3) := dOf oX10_type_0 19 rfl
theorem dX10_type_34 : decode cX10_type 34 = .ok (.land, 1) := dOf oX10_type_0 20 rfl
theorem dX10_type_35 : decode cX10_type 35 = .ok (.ldc2_w 92, 3) := dOf oX10_type_0 21 rfl
theorem dX10_type_38 : decode cX10_type 38 = .ok (.ldc2_w 94, 3) := dOf oX10_type_0 22 rfl
theorem dX10_type_41 : decode cX10_type 41 = .ok (.invokestatic 84, 3) := dOf oX10_type_0 23 rfl
theorem dX10_type_44 : decode cX10_type 44 = .ok (.ifCond .ne 5, 3) := dOf oX10_type_0 24 rfl
theorem dX10_type_47 : decode cX10_type 47 = .ok (.iconst (-1), 1) := dOf oX10_type_0 25 rfl
theorem dX10_type_48 : decode cX10_type 48 = .ok (.ireturn, 1) := dOf oX10_type_0 26 rfl
theorem dX10_type_49 : decode cX10_type 49 = .ok (.iinc 4 (-1), 3) := dOf oX10_type_0 27 rfl
theorem dX10_type_52 : decode cX10_type 52 = .ok (.goto (-33), 3) := dOf oX10_type_0 28 rfl
theorem dX10_type_55 : decode cX10_type 55 = .ok (.aload_n 0, 1) := dOf oX10_type_0 29 rfl
theorem dX10_type_56 : decode cX10_type 56 = .ok (.getfield 96, 3) := dOf oX10_type_0 30 rfl
theorem dX10_type_59 : decode cX10_type 59 = .ok (.iload_n 3, 1) := dOf oX10_type_0 31 rfl
theorem dX10_type_60 : decode cX10_type 60 = .ok (.iadd, 1) := dOf oX10_type_0 32 rfl
theorem dX10_type_61 : decode cX10_type 61 = .ok (.bipush 60, 2) := dOf oX10_type_0 33 rfl
theorem dX10_type_63 : decode cX10_type 63 = .ok (.if_icmp .le 6, 3) := dOf oX10_type_0 34 rfl
theorem dX10_type_66 : decode cX10_type 66 = .ok (.bipush (-3), 2) := dOf oX10_type_0 35 rfl
theorem dX10_type_68 : decode cX10_type 68 = .ok (.ireturn, 1) := dOf oX10_type_0 36 rfl
theorem dX10_type_69 : decode cX10_type 69 = .ok (.iload_n 3, 1) := dOf oX10_type_0 37 rfl
theorem dX10_type_70 : decode cX10_type 70 = .ok (.iconst 1, 1) := dOf oX10_type_0 38 rfl
theorem dX10_type_71 : decode cX10_type 71 = .ok (.isub, 1) := dOf oX10_type_0 39 rfl
theorem dX10_type_72 : decode cX10_type 72 = .ok (.istore 4, 2) := dOf oX10_type_0 40 rfl
theorem dX10_type_74 : decode cX10_type 74 = .ok (.iload 4, 2) := dOf oX10_type_0 41 rfl
theorem dX10_type_76 : decode cX10_type 76 = .ok (.ifCond .lt 40, 3) := dOf oX10_type_0 42 rfl
theorem dX10_type_79 : decode cX10_type 79 = .ok (.aload_n 0, 1) := dOf oX10_type_0 43 rfl
theorem dX10_type_80 : decode cX10_type 80 = .ok (.getfield 28, 3) := dOf oX10_type_0 44 rfl
theorem dX10_type_83 : decode cX10_type 83 = .ok (.aload_n 0, 1) := dOf oX10_type_0 45 rfl
theorem dX10_type_84 : decode cX10_type 84 = .ok (.getfield 96, 3) := dOf oX10_type_0 46 rfl
theorem dX10_type_87 : decode cX10_type 87 = .ok (.lload_n 1, 1) := dOf oX10_type_0 47 rfl
theorem dX10_type_88 : decode cX10_type 88 = .ok (.bipush 8, 2) := dOf oX10_type_0 48 rfl
theorem dX10_type_90 : decode cX10_type 90 = .ok (.iload 4, 2) := dOf oX10_type_0 49 rfl
theorem dX10_type_92 : decode cX10_type 92 = .ok (.imul, 1) := dOf oX10_type_0 50 rfl
theorem dX10_type_93 : decode cX10_type 93 = .ok (.lshr, 1) := dOf oX10_type_0 51 rfl
theorem dX10_type_94 : decode cX10_type 94 = .ok (.ldc2_w 90, 3) := dOf oX10_type_0 52 rfl
theorem dX10_type_97 : decode cX10_type 97 = .ok (.land, 1) := dOf oX10_type_0 53 rfl
theorem dX10_type_98 : decode cX10_type 98 = .ok (.l2i, 1) := dOf oX10_type_0 54 rfl
theorem dX10_type_99 : decode cX10_type 99 = .ok (.iastore, 1) := dOf oX10_type_0 55 rfl
theorem dX10_type_100 : decode cX10_type 100 = .ok (.aload_n 0, 1) := dOf oX10_type_0 56 rfl
theorem dX10_type_101 : decode cX10_type 101 = .ok (.dup, 1) := dOf oX10_type_0 57 rfl
theorem dX10_type_102 : decode cX10_type 102 = .ok (.getfield 96, 3) := dOf oX10_type_0 58 rfl
theorem dX10_type_105 : decode cX10_type 105 = .ok (.iconst 1, 1) := dOf oX10_type_0 59 rfl
def eX10_type_1 : List (Nat × Instr × Nat) := [(106, .iadd, 1), (107, .putfield 96, 3), (110, .iinc 4 (-1), 3), (113, .goto (-39), 3), (116, .aload_n 0, 1), (117, .getfield 96, 3), (120, .ireturn, 1)]
theorem oX10_type_1 : okC cX10_type eX10_type_1 = true := by decide +kernel
theorem dX10_type_106 : decode cX10_type 106 = .ok (.iadd, 1) := dOf oX10_type_1 0 rfl
theorem dX10_type_107 : decode cX10_type 107 = .ok (.putfield 96, 3) := dOf oX10_type_1 1 rfl
theorem dX10_type_110 : decode cX10_type 110 = .ok (.iinc 4 (-1), 3) := dOf oX10_type_1 2 rfl
theorem dX10_type_113 : decode cX10_type 113 = .ok (.goto (-39), 3) := dOf oX10_type_1 3 rfl
theorem dX10_type_116 : decode cX10_type 116 = .ok (.aload_n 0, 1) := dOf oX10_type_1 4 rfl
theorem dX10_type_117 : decode cX10_type 117 = .ok (.getfield 96, 3) := dOf oX10_type_1 5 rfl
theorem dX10_type_120 : decode cX10_type 120 = .ok (.ireturn, 1) := dOf oX10_type_1 6 rfl
