def eX10_slips_0 : List (Nat × Instr × Nat) := [(0, .iconst 0, 1), (1, .istore_n 1, 1), (2, .iconst 0, 1), (3, .istore_n 2, 1), (4, .iload_n 2, 1), (5, .aload_n 0, 1), (6, .getfield 80, 3), (9, .if_icmp .ge 29, 3), (12, .iload_n 1, 1), (13, .aload_n 0, 1), (14, .getfield 16, 3), (17, .iload_n 2, 1), (18, .iaload, 1), (19, .iconst 1, 1), (20, .if_icmp .ne 9, 3), (23, .iconst 1, 1), (24, .iload_n 2, 1), (25, .ishl, 1), (26, .goto 4, 3), (29, .iconst 0, 1), (30, .ior, 1), (31, .istore_n 1, 1), (32, .iinc 2 1, 3), (35, .goto (-31), 3), (38, .iload_n 1, 1), (39, .ifCond .ne 6, 3), (42, .bipush (-2), 2), (44, .ireturn, 1), (45, .iload_n 1, 1), (46, .istore_n 2, 1), (47, .iconst 0, 1), (48, .istore_n 3, 1), (49, .iload_n 3, 1), (50, .iload_n 1, 1), (51, .if_icmp .gt 66, 3), (54, .iload_n 3, 1), (55, .invokestatic 272, 3), (58, .iload_n 2, 1), (59, .invokestatic 272, 3), (62, .if_icmp .lt 19, 3), (65, .iload_n 3, 1), (66, .invokestatic 272, 3), (69, .iload_n 2, 1), (70, .invokestatic 272, 3), (73, .if_icmp .ne 12, 3), (76, .iload_n 3, 1), (77, .iload_n 2, 1), (78, .if_icmp .ge 7, 3), (81, .iconst 1, 1), (82, .goto 4, 3), (85, .iconst 0, 1), (86, .istore 4, 2), (88, .iload_n 3, 1), (89, .iload_n 1, 1), (90, .iconst (-1), 1), (91, .ixor, 1), (92, .iand, 1), (93, .ifCond .ne 18, 3), (96, .iload 4, 2), (98, .ifCond .eq 13, 3)]
theorem oX10_slips_0 : okC cX10_slips eX10_slips_0 = true := by decide +kernel
theorem dX10_slips_0 : decode cX10_slips 0 = .ok (.iconst 0, 1) := dOf oX10_slips_0 0 rfl
theorem dX10_slips_1 : decode cX10_slips 1 = .ok (.istore_n 1, 1) := dOf oX10_slips_0 1 rfl
theorem dX10_slips_2 : decode cX10_slips 2 = .ok (.iconst 0, 1) := dOf oX10_slips_0 2 rfl
theorem dX10_slips_3 : decode cX10_slips 3 = .ok (.istore_n 2, 1) := dOf oX10_slips_0 3 rfl
theorem dX10_slips_4 : decode cX10_slips 4 = .ok (.iload_n 2, 1) := dOf oX10_slips_0 4 rfl
theorem dX10_slips_5 : decode cX10_slips 5 = .ok (.aload_n 0, 1) := dOf oX10_slips_0 5 rfl
theorem dX10_slips_6 : decode cX10_slips 6 = .ok (.getfield 80, 3) := dOf oX10_slips_0 6 rfl
theorem dX10_slips_9 : decode cX10_slips 9 = .ok (.if_icmp .ge 29, 3) := dOf oX10_slips_0 7 rfl
theorem dX10_slips_12 : decode cX10_slips 12 = .ok (.iload_n 1, 1) := dOf oX10_slips_0 8 rfl
theorem dX10_slips_13 : decode cX10_slips 13 = .ok (.aload_n 0, 1) := dOf oX10_slips_0 9 rfl
theorem dX10_slips_14 : decode cX10_slips 14 = .ok (.getfield 16, 3) := dOf oX10_slips_0 10 rfl
theorem dX10_slips_17 : decode cX10_slips 17 = .ok (.iload_n 2, 1) := dOf oX10_slips_0 11 rfl
theorem dX10_slips_18 : decode cX10_slips 18 = .ok (.iaload, 1) := dOf oX10_slips_0 12 rfl
theorem dX10_slips_19 : decode cX10_slips 19 = .ok (.iconst 1, 1) := dOf oX10_slips_0 13 rfl
theorem dX10_slips_20 : decode cX10_slips 20 = .ok (.if_icmp .ne 9, 3) := dOf oX10_slips_0 14 rfl
theorem dX10_slips_23 : decode cX10_slips 23 = .ok (.iconst 1, 1) := dOf oX10_slips_0 15 rfl
theorem dX10_slips_24 : decode cX10_slips 24 = .ok (.iload_n 2, 1) := dOf oX10_slips_0 16 rfl
theorem dX10_slips_25 : decode cX10_slips 25 = .ok (.ishl, 1) := dOf oX10_slips_0 17 rfl
theorem dX10_slips_26 : decode cX10_slips 26 = .ok (.goto 4, 3) := dOf oX10_slips_0 18 rfl
theorem dX10_slips_29 : decode cX10_slips 29 = .ok (.iconst 0, 1) := dOf oX10_slips_0 19 rfl
theorem dX10_slips_30 : decode cX10_slips 30 = .ok (.ior, 1) := dOf oX10_slips_0 20 rfl
theorem dX10_slips_31 : decode cX10_slips 31 = .ok (.istore_n 1, 1) := dOf oX10_slips_0 21 rfl
theorem dX10_slips_32 : decode cX10_slips 32 = .ok (.iinc 2 1, 3) := dOf oX10_slips_0 22 rfl
theorem dX10_slips_35 : decode cX10_slips 35 = .ok (.goto (-31), 3) := dOf oX10_slips_0 23 rfl
theorem dX10_slips_38 : decode cX10_slips 38 = .ok (.iload_n 1, 1) := dOf oX10_slips_0 24 rfl
theorem dX10_slips_39 : decode cX10_slips 39 = .ok (.ifCond .ne 6, 3) := dOf oX10_slips_0 25 rfl
theorem dX10_slips_42 : decode cX10_slips 42 = .ok (.bipush (-2), 2) := dOf oX10_slips_0 26 rfl
theorem dX10_slips_44 : decode cX10_slips 44 = .ok (.ireturn, 1) := dOf oX10_slips_0 27 rfl
theorem dX10_slips_45 : decode cX10_slips 45 = .ok (.iload_n 1, 1) := dOf oX10_slips_0 28 rfl
theorem dX10_slips_46 : decode cX10_slips 46 = .ok (.istore_n 2, 1) := dOf oX10_slips_0 29 rfl
theorem dX10_slips_47 : decode cX10_slips 47 = .ok (.iconst 0, 1) := dOf oX10_slips_0 30 rfl
theorem dX10_slips_48 : decode cX10_slips 48 = .ok (.istore_n 3, 1) := dOf oX10_slips_0 31 rfl
theorem dX10_slips_49 : decode cX10_slips 49 = .ok (.iload_n 3, 1) := dOf oX10_slips_0 32 rfl
theorem dX10_slips_50 : decode cX10_slips 50 = .ok (.iload_n 1, 1) := dOf oX10_slips_0 33 rfl
theorem dX10_slips_51 : decode cX10_slips 51 = .ok (.if_icmp .gt 66, 3) := dOf oX10_slips_0 34 rfl
theorem dX10_slips_54 : decode cX10_slips 54 = .ok (.iload_n 3, 1) := dOf oX10_slips_0 35 rfl
theorem dX10_slips_55 : decode cX10_slips 55 = .ok (.invokestatic 272, 3) := dOf oX10_slips_0 36 rfl
theorem dX10_slips_58 : decode cX10_slips 58 = .ok (.iload_n 2, 1) := dOf oX10_slips_0 37 rfl
theorem dX10_slips_59 : decode cX10_slips 59 = .ok (.invokestatic 272, 3) := dOf oX10_slips_0 38 rfl
theorem dX10_slips_62 : decode cX10_slips 62 = .ok (.if_icmp .lt 19, 3) := dOf oX10_slips_0 39 rfl
theorem dX10_slips_65 : decode cX10_slips 65 = .ok (.iload_n 3, 1) := dOf oX10_slips_0 40 rfl
theorem dX10_slips_66 : decode cX10_slips 66 = .ok (.invokestatic 272, 3) := dOf oX10_slips_0 41 rfl
theorem dX10_slips_69 : decode cX10_slips 69 = .ok (.iload_n 2, 1) := dOf oX10_slips_0 42 rfl
theorem dX10_slips_70 : decode cX10_slips 70 = .ok (.invokestatic 272, 3) := dOf oX10_slips_0 43 rfl
theorem dX10_slips_73 : decode cX10_slips 73 = .ok (.if_icmp .ne 12, 3) := dOf oX10_slips_0 44 rfl
theorem dX10_slips_76 : decode cX10_slips 76 = .ok (.iload_n 3, 1) := dOf oX10_slips_0 45 rfl
theorem dX10_slips_77 : decode cX10_slips 77 = .ok (.iload_n 2, 1) := dOf oX10_slips_0 46 rfl
theorem dX10_slips_78 : decode cX10_slips 78 = .ok (.if_icmp .ge 7, 3) := dOf oX10_slips_0 47 rfl
theorem dX10_slips_81 : decode cX10_slips 81 = .ok (.iconst 1, 1) := dOf oX10_slips_0 48 rfl
theorem dX10_slips_82 : decode cX10_slips 82 = .ok (.goto 4, 3) := dOf oX10_slips_0 49 rfl
theorem dX10_slips_85 : decode cX10_slips 85 = .ok (.iconst 0, 1) := dOf oX10_slips_0 50 rfl
theorem dX10_slips_86 : decode cX10_slips 86 = .ok (.istore 4, 2) := dOf oX10_slips_0 51 rfl
theorem dX10_slips_88 : decode cX10_slips 88 = .ok (.iload_n 3, 1) := dOf oX10_slips_0 52 rfl
theorem dX10_slips_89 : decode cX10_slips 89 = .ok (.iload_n 1, 1) := dOf oX10_slips_0 53 rfl
theorem dX10_slips_90 : decode cX10_slips 90 = .ok (.iconst (-1), 1) := dOf oX10_slips_0 54 rfl
theorem dX10_slips_91 : decode cX10_slips 91 = .ok (.ixor, 1) := dOf oX10_slips_0 55 rfl
theorem dX10_slips_92 : decode cX10_slips 92 = .ok (.iand, 1) := dOf oX10_slips_0 56 rfl
theorem dX10_slips_93 : decode cX10_slips 93 = .ok (.ifCond .ne 18, 3) := dOf oX10_slips_0 57 rfl
theorem dX10_slips_96 : decode cX10_slips 96 = .ok (.iload 4, 2) := dOf oX10_slips_0 58 rfl
theorem dX10_slips_98 : decode cX10_slips 98 = .ok (.ifCond .eq 13, 3) := dOf oX10_slips_0 59 rfl
def eX10_slips_1 : List (Nat × Instr × Nat) := [(101, .aload_n 0, 1), (102, .iload_n 3, 1), (103, .invokevirtual 275, 3), (106, .ifCond .eq 5, 3), (109, .iload_n 3, 1), (110, .istore_n 2, 1), (111, .iinc 3 1, 3), (114, .goto (-65), 3), (117, .iload_n 2, 1), (118, .ireturn, 1)]
theorem oX10_slips_1 : okC cX10_slips eX10_slips_1 = true := by decide +kernel
theorem dX10_slips_101 : decode cX10_slips 101 = .ok (.aload_n 0, 1) := dOf oX10_slips_1 0 rfl
theorem dX10_slips_102 : decode cX10_slips 102 = .ok (.iload_n 3, 1) := dOf oX10_slips_1 1 rfl
theorem dX10_slips_103 : decode cX10_slips 103 = .ok (.invokevirtual 275, 3) := dOf oX10_slips_1 2 rfl
theorem dX10_slips_106 : decode cX10_slips 106 = .ok (.ifCond .eq 5, 3) := dOf oX10_slips_1 3 rfl
theorem dX10_slips_109 : decode cX10_slips 109 = .ok (.iload_n 3, 1) := dOf oX10_slips_1 4 rfl
theorem dX10_slips_110 : decode cX10_slips 110 = .ok (.istore_n 2, 1) := dOf oX10_slips_1 5 rfl
theorem dX10_slips_111 : decode cX10_slips 111 = .ok (.iinc 3 1, 3) := dOf oX10_slips_1 6 rfl
theorem dX10_slips_114 : decode cX10_slips 114 = .ok (.goto (-65), 3) := dOf oX10_slips_1 7 rfl
theorem dX10_slips_117 : decode cX10_slips 117 = .ok (.iload_n 2, 1) := dOf oX10_slips_1 8 rfl
theorem dX10_slips_118 : decode cX10_slips 118 = .ok (.ireturn, 1) := dOf oX10_slips_1 9 rfl
def eX10_state_0 : List (Nat × Instr × Nat) := [(0, .aload_n 0, 1), (1, .iload_n 1, 1), (2, .invokevirtual 105, 3), (5, .ifCond .eq 12, 3), (8, .aload_n 0, 1), (9, .getfield 16, 3), (12, .iload_n 1, 1), (13, .iaload, 1), (14, .goto 4, 3), (17, .iconst (-1), 1), (18, .ireturn, 1)]
theorem oX10_state_0 : okC cX10_state eX10_state_0 = true := by decide +kernel
theorem dX10_state_0 : decode cX10_state 0 = .ok (.aload_n 0, 1) := dOf oX10_state_0 0 rfl
theorem dX10_state_1 : decode cX10_state 1 = .ok (.iload_n 1, 1) := dOf oX10_state_0 1 rfl
theorem dX10_state_2 : decode cX10_state 2 = .ok (.invokevirtual 105, 3) := dOf oX10_state_0 2 rfl
theorem dX10_state_5 : decode cX10_state 5 = .ok (.ifCond .eq 12, 3) := dOf oX10_state_0 3 rfl
theorem dX10_state_8 : decode cX10_state 8 = .ok (.aload_n 0, 1) := dOf oX10_state_0 4 rfl
theorem dX10_state_9 : decode cX10_state 9 = .ok (.getfield 16, 3) := dOf oX10_state_0 5 rfl
theorem dX10_state_12 : decode cX10_state 12 = .ok (.iload_n 1, 1) := dOf oX10_state_0 6 rfl
theorem dX10_state_13 : decode cX10_state 13 = .ok (.iaload, 1) := dOf oX10_state_0 7 rfl
theorem dX10_state_14 : decode cX10_state 14 = .ok (.goto 4, 3) := dOf oX10_state_0 8 rfl
theorem dX10_state_17 : decode cX10_state 17 = .ok (.iconst (-1), 1) := dOf oX10_state_0 9 rfl
theorem dX10_state_18 : decode cX10_state 18 = .ok (.ireturn, 1) := dOf oX10_state_0 10 rfl
def eX10_doing_0 : List (Nat × Instr × Nat) := [(0, .iload_n 1, 1), (1, .i2l, 1), (2, .lconst 1, 1), (3, .ldc2_w 167, 3), (6, .invokestatic 84, 3), (9, .ifCond .ne 5, 3), (12, .iconst (-1), 1), (13, .ireturn, 1), (14, .aload_n 0, 1), (15, .invokevirtual 235, 3), (18, .istore_n 2, 1), (19, .iload_n 2, 1), (20, .ifCond .ge 5, 3), (23, .iload_n 2, 1), (24, .ireturn, 1), (25, .aload_n 0, 1), (26, .dup, 1), (27, .getfield 278, 3), (30, .iconst 1, 1), (31, .iadd, 1), (32, .putfield 278, 3), (35, .iload_n 1, 1), (36, .istore_n 3, 1), (37, .iconst 0, 1), (38, .istore 4, 2), (40, .iconst 0, 1), (41, .istore 5, 2), (43, .iload 5, 2), (45, .aload_n 0, 1), (46, .getfield 80, 3), (49, .if_icmp .ge 138, 3), (52, .iload_n 3, 1), (53, .ifCond .le 134, 3), (56, .aload_n 0, 1), (57, .getfield 16, 3), (60, .iload 5, 2), (62, .iaload, 1), (63, .ifCond .ne 118, 3), (66, .iinc 3 (-1), 3), (69, .aload_n 0, 1), (70, .getfield 25, 3), (73, .iload 5, 2), (75, .aload_n 0, 1), (76, .getfield 278, 3), (79, .iastore, 1), (80, .aload_n 0, 1), (81, .iload 5, 2), (83, .invokevirtual 269, 3), (86, .istore 6, 2), (88, .aload_n 0, 1), (89, .getfield 16, 3), (92, .iload 5, 2), (94, .iload 6, 2), (96, .ifCond .eq 7, 3), (99, .iconst 3, 1), (100, .goto 4, 3), (103, .iconst 2, 1), (104, .iastore, 1), (105, .aload_n 0, 1), (106, .getfield 22, 3)]
theorem oX10_doing_0 : okC cX10_doing eX10_doing_0 = true := by decide +kernel
theorem dX10_doing_0 : decode cX10_doing 0 = .ok (.iload_n 1, 1) := dOf oX10_doing_0 0 rfl
theorem dX10_doing_1 : decode cX10_doing 1 = .ok (.i2l, 1) := dOf oX10_doing_0 1 rfl
theorem dX10_doing_2 : decode cX10_doing 2 = .ok (.lconst 1, 1) := dOf oX10_doing_0 2 rfl
theorem dX10_doing_3 : decode cX10_doing 3 = .ok (.ldc2_w 167, 3) := dOf oX10_doing_0 3 rfl
theorem dX10_doing_6 : decode cX10_doing 6 = .ok (.invokestatic 84, 3) := dOf oX10_doing_0 4 rfl
theorem dX10_doing_9 : decode cX10_doing 9 = .ok (.ifCond .ne 5, 3) := dOf oX10_doing_0 5 rfl
theorem dX10_doing_12 : decode cX10_doing 12 = .ok (.iconst (-1), 1) := dOf oX10_doing_0 6 rfl
theorem dX10_doing_13 : decode cX10_doing 13 = .ok (.ireturn, 1) := dOf oX10_doing_0 7 rfl
theorem dX10_doing_14 : decode cX10_doing 14 = .ok (.aload_n 0, 1) := dOf oX10_doing_0 8 rfl
theorem dX10_doing_15 : decode cX10_doing 15 = .ok (.invokevirtual 235, 3) := dOf oX10_doing_0 9 rfl
theorem dX10_doing_18 : decode cX10_doing 18 = .ok (.istore_n 2, 1) := dOf oX10_doing_0 10 rfl
theorem dX10_doing_19 : decode cX10_doing 19 = .ok (.iload_n 2, 1) := dOf oX10_doing_0 11 rfl
theorem dX10_doing_20 : decode cX10_doing 20 = .ok (.ifCond .ge 5, 3) := dOf oX10_doing_0 12 rfl
theorem dX10_doing_23 : decode cX10_doing 23 = .ok (.iload_n 2, 1) := dOf oX10_doing_0 13 rfl
theorem dX10_doing_24 : decode cX10_doing 24 = .ok (.ireturn, 1) := dOf oX10_doing_0 14 rfl
theorem dX10_doing_25 : decode cX10_doing 25 = .ok (.aload_n 0, 1) := dOf oX10_doing_0 15 rfl
theorem dX10_doing_26 : decode cX10_doing 26 = .ok (.dup, 1) := dOf oX10_doing_0 16 rfl
theorem dX10_doing_27 : decode cX10_doing 27 = .ok (.getfield 278, 3) := dOf oX10_doing_0 17 rfl
theorem dX10_doing_30 : decode cX10_doing 30 = .ok (.iconst 1, 1) := dOf oX10_doing_0 18 rfl
theorem dX10_doing_31 : decode cX10_doing 31 = .ok (.iadd, 1) := dOf oX10_doing_0 19 rfl
theorem dX10_doing_32 : decode cX10_doing 32 = .ok (.putfield 278, 3) := dOf oX10_doing_0 20 rfl
theorem dX10_doing_35 : decode cX10_doing 35 = .ok (.iload_n 1, 1) := dOf oX10_doing_0 21 rfl
theorem dX10_doing_36 : decode cX10_doing 36 = .ok (.istore_n 3, 1) := dOf oX10_doing_0 22 rfl
theorem dX10_doing_37 : decode cX10_doing 37 = .ok (.iconst 0, 1) := dOf oX10_doing_0 23 rfl
theorem dX10_doing_38 : decode cX10_doing 38 = .ok (.istore 4, 2) := dOf oX10_doing_0 24 rfl
theorem dX10_doing_40 : decode cX10_doing 40 = .ok (.iconst 0, 1) := dOf oX10_doing_0 25 rfl
theorem dX10_doing_41 : decode cX10_doing 41 = .ok (.istore 5, 2) := dOf oX10_doing_0 26 rfl
theorem dX10_doing_43 : decode cX10_doing 43 = .ok (.iload 5, 2) := dOf oX10_doing_0 27 rfl
theorem dX10_doing_45 : decode cX10_doing 45 = .ok (.aload_n 0, 1) := dOf oX10_doing_0 28 rfl
theorem dX10_doing_46 : decode cX10_doing 46 = .ok (.getfield 80, 3) := dOf oX10_doing_0 29 rfl
theorem dX10_doing_49 : decode cX10_doing 49 = .ok (.if_icmp .ge 138, 3) := dOf oX10_doing_0 30 rfl
theorem dX10_doing_52 : decode cX10_doing 52 = .ok (.iload_n 3, 1) := dOf oX10_doing_0 31 rfl
theorem dX10_doing_53 : decode cX10_doing 53 = .ok (.ifCond .le 134, 3) := dOf oX10_doing_0 32 rfl
theorem dX10_doing_56 : decode cX10_doing 56 = .ok (.aload_n 0, 1) := dOf oX10_doing_0 33 rfl
theorem dX10_doing_57 : decode cX10_doing 57 = .ok (.getfield 16, 3) := dOf oX10_doing_0 34 rfl
theorem dX10_doing_60 : decode cX10_doing 60 = .ok (.iload 5, 2) := dOf oX10_doing_0 35 rfl
theorem dX10_doing_62 : decode cX10_doing 62 = .ok (.iaload, 1) := dOf oX10_doing_0 36 rfl
theorem dX10_doing_63 : decode cX10_doing 63 = .ok (.ifCond .ne 118, 3) := dOf oX10_doing_0 37 rfl
theorem dX10_doing_66 : decode cX10_doing 66 = .ok (.iinc 3 (-1), 3) := dOf oX10_doing_0 38 rfl
theorem dX10_doing_69 : decode cX10_doing 69 = .ok (.aload_n 0, 1) := dOf oX10_doing_0 39 rfl
theorem dX10_doing_70 : decode cX10_doing 70 = .ok (.getfield 25, 3) := dOf oX10_doing_0 40 rfl
theorem dX10_doing_73 : decode cX10_doing 73 = .ok (.iload 5, 2) := dOf oX10_doing_0 41 rfl
theorem dX10_doing_75 : decode cX10_doing 75 = .ok (.aload_n 0, 1) := dOf oX10_doing_0 42 rfl
theorem dX10_doing_76 : decode cX10_doing 76 = .ok (.getfield 278, 3) := dOf oX10_doing_0 43 rfl
theorem dX10_doing_79 : decode cX10_doing 79 = .ok (.iastore, 1) := dOf oX10_doing_0 44 rfl
theorem dX10_doing_80 : decode cX10_doing 80 = .ok (.aload_n 0, 1) := dOf oX10_doing_0 45 rfl
theorem dX10_doing_81 : decode cX10_doing 81 = .ok (.iload 5, 2) := dOf oX10_doing_0 46 rfl
theorem dX10_doing_83 : decode cX10_doing 83 = .ok (.invokevirtual 269, 3) := dOf oX10_doing_0 47 rfl
theorem dX10_doing_86 : decode cX10_doing 86 = .ok (.istore 6, 2) := dOf oX10_doing_0 48 rfl
theorem dX10_doing_88 : decode cX10_doing 88 = .ok (.aload_n 0, 1) := dOf oX10_doing_0 49 rfl
theorem dX10_doing_89 : decode cX10_doing 89 = .ok (.getfield 16, 3) := dOf oX10_doing_0 50 rfl
theorem dX10_doing_92 : decode cX10_doing 92 = .ok (.iload 5, 2) := dOf oX10_doing_0 51 rfl
theorem dX10_doing_94 : decode cX10_doing 94 = .ok (.iload 6, 2) := dOf oX10_doing_0 52 rfl
theorem dX10_doing_96 : decode cX10_doing 96 = .ok (.ifCond .eq 7, 3) := dOf oX10_doing_0 53 rfl
theorem dX10_doing_99 : decode cX10_doing 99 = .ok (.iconst 3, 1) := dOf oX10_doing_0 54 rfl
theorem dX10_doing_100 : decode cX10_doing 100 = .ok (.goto 4, 3) := dOf oX10_doing_0 55 rfl
theorem dX10_doing_103 : decode cX10_doing 103 = .ok (.iconst 2, 1) := dOf oX10_doing_0 56 rfl
theorem dX10_doing_104 : decode cX10_doing 104 = .ok (.iastore, 1) := dOf oX10_doing_0 57 rfl
theorem dX10_doing_105 : decode cX10_doing 105 = .ok (.aload_n 0, 1) := dOf oX10_doing_0 58 rfl
theorem dX10_doing_106 : decode cX10_doing 106 = .ok (.getfield 22, 3) := dOf oX10_doing_0 59 rfl
def eX10_doing_1 : List (Nat × Instr × Nat) := [(109, .iload 5, 2), (111, .iload 6, 2), (113, .ifCond .eq 7, 3), (116, .iconst 0, 1), (117, .goto 7, 3), (120, .aload_n 0, 1), (121, .getfield 150, 3), (124, .iastore, 1), (125, .iconst 0, 1), (126, .istore 7, 2), (128, .iload 7, 2), (130, .aload_n 0, 1), (131, .getfield 22, 3), (134, .iload 5, 2), (136, .iaload, 1), (137, .if_icmp .ge 29, 3), (140, .aload_n 0, 1), (141, .getfield 19, 3), (144, .bipush 36, 2), (146, .iload 5, 2), (148, .imul, 1), (149, .iload 7, 2), (151, .iadd, 1), (152, .aload_n 0, 1), (153, .getfield 31, 3), (156, .iload 7, 2), (158, .iaload, 1), (159, .iastore, 1), (160, .iinc 7 1, 3), (163, .goto (-35), 3), (166, .iload 4, 2), (168, .iload 6, 2), (170, .ifCond .eq 7, 3), (173, .iconst 0, 1), (174, .goto 4, 3), (177, .iconst 1, 1), (178, .iadd, 1), (179, .istore 4, 2), (181, .iinc 5 1, 3), (184, .goto (-141), 3), (187, .iload 4, 2), (189, .ireturn, 1)]
theorem oX10_doing_1 : okC cX10_doing eX10_doing_1 = true := by decide +kernel
theorem dX10_doing_109 : decode cX10_doing 109 = .ok (.iload 5, 2) := dOf oX10_doing_1 0 rfl
theorem dX10_doing_111 : decode cX10_doing 111 = .ok (.iload 6, 2) := dOf oX10_doing_1 1 rfl
theorem dX10_doing_113 : decode cX10_doing 113 = .ok (.ifCond .eq 7, 3) := dOf oX10_doing_1 2 rfl
theorem dX10_doing_116 : decode cX10_doing 116 = .ok (.iconst 0, 1) := dOf oX10_doing_1 3 rfl
theorem dX10_doing_117 : decode cX10_doing 117 = .ok (.goto 7, 3) := dOf oX10_doing_1 4 rfl
theorem dX10_doing_120 : decode cX10_doing 120 = .ok (.aload_n 0, 1) := dOf oX10_doing_1 5 rfl
theorem dX10_doing_121 : decode cX10_doing 121 = .ok (.getfield 150, 3) := dOf oX10_doing_1 6 rfl
theorem dX10_doing_124 : decode cX10_doing 124 = .ok (.iastore, 1) := dOf oX10_doing_1 7 rfl
theorem dX10_doing_125 : decode cX10_doing 125 = .ok (.iconst 0, 1) := dOf oX10_doing_1 8 rfl
theorem dX10_doing_126 : decode cX10_doing 126 = .ok (.istore 7, 2) := dOf oX10_doing_1 9 rfl
theorem dX10_doing_128 : decode cX10_doing 128 = .ok (.iload 7, 2) := dOf oX10_doing_1 10 rfl
theorem dX10_doing_130 : decode cX10_doing 130 = .ok (.aload_n 0, 1) := dOf oX10_doing_1 11 rfl
theorem dX10_doing_131 : decode cX10_doing 131 = .ok (.getfield 22, 3) := dOf oX10_doing_1 12 rfl
theorem dX10_doing_134 : decode cX10_doing 134 = .ok (.iload 5, 2) := dOf oX10_doing_1 13 rfl
theorem dX10_doing_136 : decode cX10_doing 136 = .ok (.iaload, 1) := dOf oX10_doing_1 14 rfl
theorem dX10_doing_137 : decode cX10_doing 137 = .ok (.if_icmp .ge 29, 3) := dOf oX10_doing_1 15 rfl
theorem dX10_doing_140 : decode cX10_doing 140 = .ok (.aload_n 0, 1) := dOf oX10_doing_1 16 rfl
theorem dX10_doing_141 : decode cX10_doing 141 = .ok (.getfield 19, 3) := dOf oX10_doing_1 17 rfl
theorem dX10_doing_144 : decode cX10_doing 144 = .ok (.bipush 36, 2) := dOf oX10_doing_1 18 rfl
theorem dX10_doing_146 : decode cX10_doing 146 = .ok (.iload 5, 2) := dOf oX10_doing_1 19 rfl
theorem dX10_doing_148 : decode cX10_doing 148 = .ok (.imul, 1) := dOf oX10_doing_1 20 rfl
theorem dX10_doing_149 : decode cX10_doing 149 = .ok (.iload 7, 2) := dOf oX10_doing_1 21 rfl
theorem dX10_doing_151 : decode cX10_doing 151 = .ok (.iadd, 1) := dOf oX10_doing_1 22 rfl
theorem dX10_doing_152 : decode cX10_doing 152 = .ok (.aload_n 0, 1) := dOf oX10_doing_1 23 rfl
theorem dX10_doing_153 : decode cX10_doing 153 = .ok (.getfield 31, 3) := dOf oX10_doing_1 24 rfl
theorem dX10_doing_156 : decode cX10_doing 156 = .ok (.iload 7, 2) := dOf oX10_doing_1 25 rfl
theorem dX10_doing_158 : decode cX10_doing 158 = .ok (.iaload, 1) := dOf oX10_doing_1 26 rfl
theorem dX10_doing_159 : decode cX10_doing 159 = .ok (.iastore, 1) := dOf oX10_doing_1 27 rfl
theorem dX10_doing_160 : decode cX10_doing 160 = .ok (.iinc 7 1, 3) := dOf oX10_doing_1 28 rfl
theorem dX10_doing_163 : decode cX10_doing 163 = .ok (.goto (-35), 3) := dOf oX10_doing_1 29 rfl
theorem dX10_doing_166 : decode cX10_doing 166 = .ok (.iload 4, 2) := dOf oX10_doing_1 30 rfl
theorem dX10_doing_168 : decode cX10_doing 168 = .ok (.iload 6, 2) := dOf oX10_doing_1 31 rfl
theorem dX10_doing_170 : decode cX10_doing 170 = .ok (.ifCond .eq 7, 3) := dOf oX10_doing_1 32 rfl
theorem dX10_doing_173 : decode cX10_doing 173 = .ok (.iconst 0, 1) := dOf oX10_doing_1 33 rfl
theorem dX10_doing_174 : decode cX10_doing 174 = .ok (.goto 4, 3) := dOf oX10_doing_1 34 rfl
theorem dX10_doing_177 : decode cX10_doing 177 = .ok (.iconst 1, 1) := dOf oX10_doing_1 35 rfl
theorem dX10_doing_178 : decode cX10_doing 178 = .ok (.iadd, 1) := dOf oX10_doing_1 36 rfl
theorem dX10_doing_179 : decode cX10_doing 179 = .ok (.istore 4, 2) := dOf oX10_doing_1 37 rfl
theorem dX10_doing_181 : decode cX10_doing 181 = .ok (.iinc 5 1, 3) := dOf oX10_doing_1 38 rfl
theorem dX10_doing_184 : decode cX10_doing 184 = .ok (.goto (-141), 3) := dOf oX10_doing_1 39 rfl
theorem dX10_doing_187 : decode cX10_doing 187 = .ok (.iload 4, 2) := dOf oX10_doing_1 40 rfl
theorem dX10_doing_189 : decode cX10_doing 189 = .ok (.ireturn, 1) := dOf oX10_doing_1 41 rfl
def eX10_back_0 : List (Nat × Instr × Nat) := [(0, .aload_n 0, 1), (1, .getfield 278, 3), (4, .ifCond .ne 6, 3), (7, .bipush (-4), 2), (9, .ireturn, 1), (10, .iconst 0, 1), (11, .istore_n 1, 1), (12, .iconst 0, 1), (13, .istore_n 2, 1), (14, .iload_n 2, 1), (15, .aload_n 0, 1), (16, .getfield 80, 3), (19, .if_icmp .ge 39, 3), (22, .aload_n 0, 1), (23, .getfield 25, 3), (26, .iload_n 2, 1), (27, .iaload, 1), (28, .aload_n 0, 1), (29, .getfield 278, 3), (32, .if_icmp .ne 20, 3), (35, .aload_n 0, 1), (36, .getfield 16, 3), (39, .iload_n 2, 1), (40, .iconst 0, 1), (41, .iastore, 1), (42, .aload_n 0, 1), (43, .getfield 25, 3), (46, .iload_n 2, 1), (47, .iconst 0, 1), (48, .iastore, 1), (49, .iinc 1 1, 3), (52, .iinc 2 1, 3), (55, .goto (-41), 3), (58, .aload_n 0, 1), (59, .dup, 1), (60, .getfield 278, 3), (63, .iconst 1, 1), (64, .isub, 1), (65, .putfield 278, 3), (68, .iload_n 1, 1), (69, .ireturn, 1)]
theorem oX10_back_0 : okC cX10_back eX10_back_0 = true := by decide +kernel
theorem dX10_back_0 : decode cX10_back 0 = .ok (.aload_n 0, 1) := dOf oX10_back_0 0 rfl
theorem dX10_back_1 : decode cX10_back 1 = .ok (.getfield 278, 3) := dOf oX10_back_0 1 rfl
theorem dX10_back_4 : decode cX10_back 4 = .ok (.ifCond .ne 6, 3) := dOf oX10_back_0 2 rfl
theorem dX10_back_7 : decode cX10_back 7 = .ok (.bipush (-4), 2) := dOf oX10_back_0 3 rfl
theorem dX10_back_9 : decode cX10_back 9 = .ok (.ireturn, 1) := dOf oX10_back_0 4 rfl
theorem dX10_back_10 : decode cX10_back 10 = .ok (.iconst 0, 1) := dOf oX10_back_0 5 rfl
theorem dX10_back_11 : decode cX10_back 11 = .ok (.istore_n 1, 1) := dOf oX10_back_0 6 rfl
theorem dX10_back_12 : decode cX10_back 12 = .ok (.iconst 0, 1) := dOf oX10_back_0 7 rfl
theorem dX10_back_13 : decode cX10_back 13 = .ok (.istore_n 2, 1) := dOf oX10_back_0 8 rfl
theorem dX10_back_14 : decode cX10_back 14 = .ok (.iload_n 2, 1) := dOf oX10_back_0 9 rfl
theorem dX10_back_15 : decode cX10_back 15 = .ok (.aload_n 0, 1) := dOf oX10_back_0 10 rfl
theorem dX10_back_16 : decode cX10_back 16 = .ok (.getfield 80, 3) := dOf oX10_back_0 11 rfl
theorem dX10_back_19 : decode cX10_back 19 = .ok (.if_icmp .ge 39, 3) := dOf oX10_back_0 12 rfl
theorem dX10_back_22 : decode cX10_back 22 = .ok (.aload_n 0, 1) := dOf oX10_back_0 13 rfl
theorem dX10_back_23 : decode cX10_back 23 = .ok (.getfield 25, 3) := dOf oX10_back_0 14 rfl
theorem dX10_back_26 : decode cX10_back 26 = .ok (.iload_n 2, 1) := dOf oX10_back_0 15 rfl
theorem dX10_back_27 : decode cX10_back 27 = .ok (.iaload, 1) := dOf oX10_back_0 16 rfl
theorem dX10_back_28 : decode cX10_back 28 = .ok (.aload_n 0, 1) := dOf oX10_back_0 17 rfl
theorem dX10_back_29 : decode cX10_back 29 = .ok (.getfield 278, 3) := dOf oX10_back_0 18 rfl
theorem dX10_back_32 : decode cX10_back 32 = .ok (.if_icmp .ne 20, 3) := dOf oX10_back_0 19 rfl
theorem dX10_back_35 : decode cX10_back 35 = .ok (.aload_n 0, 1) := dOf oX10_back_0 20 rfl
theorem dX10_back_36 : decode cX10_back 36 = .ok (.getfield 16, 3) := dOf oX10_back_0 21 rfl
theorem dX10_back_39 : decode cX10_back 39 = .ok (.iload_n 2, 1) := dOf oX10_back_0 22 rfl
theorem dX10_back_40 : decode cX10_back 40 = .ok (.iconst 0, 1) := dOf oX10_back_0 23 rfl
theorem dX10_back_41 : decode cX10_back 41 = .ok (.iastore, 1) := dOf oX10_back_0 24 rfl
theorem dX10_back_42 : decode cX10_back 42 = .ok (.aload_n 0, 1) := dOf oX10_back_0 25 rfl
theorem dX10_back_43 : decode cX10_back 43 = .ok (.getfield 25, 3) := dOf oX10_back_0 26 rfl
theorem dX10_back_46 : decode cX10_back 46 = .ok (.iload_n 2, 1) := dOf oX10_back_0 27 rfl
theorem dX10_back_47 : decode cX10_back 47 = .ok (.iconst 0, 1) := dOf oX10_back_0 28 rfl
theorem dX10_back_48 : decode cX10_back 48 = .ok (.iastore, 1) := dOf oX10_back_0 29 rfl
theorem dX10_back_49 : decode cX10_back 49 = .ok (.iinc 1 1, 3) := dOf oX10_back_0 30 rfl
theorem dX10_back_52 : decode cX10_back 52 = .ok (.iinc 2 1, 3) := dOf oX10_back_0 31 rfl
theorem dX10_back_55 : decode cX10_back 55 = .ok (.goto (-41), 3) := dOf oX10_back_0 32 rfl
theorem dX10_back_58 : decode cX10_back 58 = .ok (.aload_n 0, 1) := dOf oX10_back_0 33 rfl
theorem dX10_back_59 : decode cX10_back 59 = .ok (.dup, 1) := dOf oX10_back_0 34 rfl
theorem dX10_back_60 : decode cX10_back 60 = .ok (.getfield 278, 3) := dOf oX10_back_0 35 rfl
theorem dX10_back_63 : decode cX10_back 63 = .ok (.iconst 1, 1) := dOf oX10_back_0 36 rfl
theorem dX10_back_64 : decode cX10_back 64 = .ok (.isub, 1) := dOf oX10_back_0 37 rfl
theorem dX10_back_65 : decode cX10_back 65 = .ok (.putfield 278, 3) := dOf oX10_back_0 38 rfl
theorem dX10_back_68 : decode cX10_back 68 = .ok (.iload_n 1, 1) := dOf oX10_back_0 39 rfl
theorem dX10_back_69 : decode cX10_back 69 = .ok (.ireturn, 1) := dOf oX10_back_0 40 rfl
def eX10_end_0 : List (Nat × Instr × Nat) := [(0, .aload_n 0, 1), (1, .iload_n 1, 1), (2, .invokevirtual 105, 3), (5, .ifCond .eq 8, 3), (8, .iload_n 2, 1), (9, .iconst (-1), 1), (10, .if_icmp .ge 5, 3), (13, .iconst (-1), 1), (14, .ireturn, 1), (15, .aload_n 0, 1), (16, .getfield 16, 3), (19, .iload_n 1, 1), (20, .iaload, 1), (21, .iconst 1, 1), (22, .if_icmp .eq 16, 3), (25, .aload_n 0, 1), (26, .getfield 16, 3), (29, .iload_n 1, 1), (30, .iaload, 1), (31, .iconst 2, 1), (32, .if_icmp .eq 6, 3), (35, .bipush (-4), 2), (37, .ireturn, 1), (38, .iload_n 2, 1), (39, .ifCond .ge 12, 3), (42, .aload_n 0, 1), (43, .getfield 22, 3), (46, .iload_n 1, 1), (47, .iaload, 1), (48, .goto 28, 3), (51, .iload_n 2, 1), (52, .aload_n 0, 1), (53, .getfield 22, 3), (56, .iload_n 1, 1), (57, .iaload, 1), (58, .if_icmp .ge 17, 3), (61, .aload_n 0, 1), (62, .getfield 19, 3), (65, .bipush 36, 2), (67, .iload_n 1, 1), (68, .imul, 1), (69, .iload_n 2, 1), (70, .iadd, 1), (71, .iaload, 1), (72, .goto 4, 3), (75, .iconst (-1), 1), (76, .ireturn, 1)]
theorem oX10_end_0 : okC cX10_end eX10_end_0 = true := by decide +kernel
theorem dX10_end_0 : decode cX10_end 0 = .ok (.aload_n 0, 1) := dOf oX10_end_0 0 rfl
theorem dX10_end_1 : decode cX10_end 1 = .ok (.iload_n 1, 1) := dOf oX10_end_0 1 rfl
theorem dX10_end_2 : decode cX10_end 2 = .ok (.invokevirtual 105, 3) := dOf oX10_end_0 2 rfl
theorem dX10_end_5 : decode cX10_end 5 = .ok (.ifCond .eq 8, 3) := dOf oX10_end_0 3 rfl
theorem dX10_end_8 : decode cX10_end 8 = .ok (.iload_n 2, 1) := dOf oX10_end_0 4 rfl
theorem dX10_end_9 : decode cX10_end 9 = .ok (.iconst (-1), 1) := dOf oX10_end_0 5 rfl
theorem dX10_end_10 : decode cX10_end 10 = .ok (.if_icmp .ge 5, 3) := dOf oX10_end_0 6 rfl
theorem dX10_end_13 : decode cX10_end 13 = .ok (.iconst (-1), 1) := dOf oX10_end_0 7 rfl
theorem dX10_end_14 : decode cX10_end 14 = .ok (.ireturn, 1) := dOf oX10_end_0 8 rfl
theorem dX10_end_15 : decode cX10_end 15 = .ok (.aload_n 0, 1) := dOf oX10_end_0 9 rfl
theorem dX10_end_16 : decode cX10_end 16 = .ok (.getfield 16, 3) := dOf oX10_end_0 10 rfl
theorem dX10_end_19 : decode cX10_end 19 = .ok (.iload_n 1, 1) := dOf oX10_end_0 11 rfl
theorem dX10_end_20 : decode cX10_end 20 = .ok (.iaload, 1) := dOf oX10_end_0 12 rfl
theorem dX10_end_21 : decode cX10_end 21 = .ok (.iconst 1, 1) := dOf oX10_end_0 13 rfl
theorem dX10_end_22 : decode cX10_end 22 = .ok (.if_icmp .eq 16, 3) := dOf oX10_end_0 14 rfl
theorem dX10_end_25 : decode cX10_end 25 = .ok (.aload_n 0, 1) := dOf oX10_end_0 15 rfl
theorem dX10_end_26 : decode cX10_end 26 = .ok (.getfield 16, 3) := dOf oX10_end_0 16 rfl
theorem dX10_end_29 : decode cX10_end 29 = .ok (.iload_n 1, 1) := dOf oX10_end_0 17 rfl
theorem dX10_end_30 : decode cX10_end 30 = .ok (.iaload, 1) := dOf oX10_end_0 18 rfl
theorem dX10_end_31 : decode cX10_end 31 = .ok (.iconst 2, 1) := dOf oX10_end_0 19 rfl
theorem dX10_end_32 : decode cX10_end 32 = .ok (.if_icmp .eq 6, 3) := dOf oX10_end_0 20 rfl
theorem dX10_end_35 : decode cX10_end 35 = .ok (.bipush (-4), 2) := dOf oX10_end_0 21 rfl
theorem dX10_end_37 : decode cX10_end 37 = .ok (.ireturn, 1) := dOf oX10_end_0 22 rfl
theorem dX10_end_38 : decode cX10_end 38 = .ok (.iload_n 2, 1) := dOf oX10_end_0 23 rfl
theorem dX10_end_39 : decode cX10_end 39 = .ok (.ifCond .ge 12, 3) := dOf oX10_end_0 24 rfl
theorem dX10_end_42 : decode cX10_end 42 = .ok (.aload_n 0, 1) := dOf oX10_end_0 25 rfl
theorem dX10_end_43 : decode cX10_end 43 = .ok (.getfield 22, 3) := dOf oX10_end_0 26 rfl
theorem dX10_end_46 : decode cX10_end 46 = .ok (.iload_n 1, 1) := dOf oX10_end_0 27 rfl
theorem dX10_end_47 : decode cX10_end 47 = .ok (.iaload, 1) := dOf oX10_end_0 28 rfl
theorem dX10_end_48 : decode cX10_end 48 = .ok (.goto 28, 3) := dOf oX10_end_0 29 rfl
theorem dX10_end_51 : decode cX10_end 51 = .ok (.iload_n 2, 1) := dOf oX10_end_0 30 rfl
theorem dX10_end_52 : decode cX10_end 52 = .ok (.aload_n 0, 1) := dOf oX10_end_0 31 rfl
theorem dX10_end_53 : decode cX10_end 53 = .ok (.getfield 22, 3) := dOf oX10_end_0 32 rfl
theorem dX10_end_56 : decode cX10_end 56 = .ok (.iload_n 1, 1) := dOf oX10_end_0 33 rfl
theorem dX10_end_57 : decode cX10_end 57 = .ok (.iaload, 1) := dOf oX10_end_0 34 rfl
theorem dX10_end_58 : decode cX10_end 58 = .ok (.if_icmp .ge 17, 3) := dOf oX10_end_0 35 rfl
theorem dX10_end_61 : decode cX10_end 61 = .ok (.aload_n 0, 1) := dOf oX10_end_0 36 rfl
theorem dX10_end_62 : decode cX10_end 62 = .ok (.getfield 19, 3) := dOf oX10_end_0 37 rfl
theorem dX10_end_65 : decode cX10_end 65 = .ok (.bipush 36, 2) := dOf oX10_end_0 38 rfl
theorem dX10_end_67 : decode cX10_end 67 = .ok (.iload_n 1, 1) := dOf oX10_end_0 39 rfl
theorem dX10_end_68 : decode cX10_end 68 = .ok (.imul, 1) := dOf oX10_end_0 40 rfl
theorem dX10_end_69 : decode cX10_end 69 = .ok (.iload_n 2, 1) := dOf oX10_end_0 41 rfl
theorem dX10_end_70 : decode cX10_end 70 = .ok (.iadd, 1) := dOf oX10_end_0 42 rfl
theorem dX10_end_71 : decode cX10_end 71 = .ok (.iaload, 1) := dOf oX10_end_0 43 rfl
theorem dX10_end_72 : decode cX10_end 72 = .ok (.goto 4, 3) := dOf oX10_end_0 44 rfl
theorem dX10_end_75 : decode cX10_end 75 = .ok (.iconst (-1), 1) := dOf oX10_end_0 45 rfl
theorem dX10_end_76 : decode cX10_end 76 = .ok (.ireturn, 1) := dOf oX10_end_0 46 rfl
def eX10_otherwise_0 : List (Nat × Instr × Nat) := [(0, .aload_n 0, 1), (1, .invokevirtual 235, 3), (4, .istore_n 1, 1), (5, .iload_n 1, 1), (6, .ifCond .ge 5, 3), (9, .iload_n 1, 1), (10, .ireturn, 1), (11, .iconst 0, 1), (12, .istore_n 2, 1), (13, .iconst 0, 1), (14, .istore_n 3, 1), (15, .iload_n 3, 1), (16, .aload_n 0, 1), (17, .getfield 80, 3), (20, .if_icmp .ge 121, 3), (23, .aload_n 0, 1), (24, .getfield 16, 3), (27, .iload_n 3, 1), (28, .iaload, 1), (29, .iconst 2, 1), (30, .if_icmp .ne 105, 3), (33, .aload_n 0, 1), (34, .aload_n 0, 1), (35, .getfield 53, 3), (38, .iconst 0, 1), (39, .iload_n 3, 1), (40, .invokevirtual 243, 3), (43, .ifCond .eq 20, 3), (46, .aload_n 0, 1), (47, .getfield 150, 3), (50, .aload_n 0, 1), (51, .getfield 22, 3), (54, .iload_n 3, 1), (55, .iaload, 1), (56, .if_icmp .ne 7, 3), (59, .iconst 1, 1), (60, .goto 4, 3), (63, .iconst 0, 1), (64, .istore 4, 2), (66, .iconst 0, 1), (67, .istore 5, 2), (69, .iload 5, 2), (71, .aload_n 0, 1), (72, .getfield 22, 3), (75, .iload_n 3, 1), (76, .iaload, 1), (77, .if_icmp .ge 43, 3), (80, .iload 4, 2), (82, .ifCond .eq 38, 3), (85, .aload_n 0, 1), (86, .getfield 31, 3), (89, .iload 5, 2), (91, .iaload, 1), (92, .aload_n 0, 1), (93, .getfield 19, 3), (96, .bipush 36, 2), (98, .iload_n 3, 1), (99, .imul, 1), (100, .iload 5, 2), (102, .iadd, 1)]
theorem oX10_otherwise_0 : okC cX10_otherwise eX10_otherwise_0 = true := by decide +kernel
theorem dX10_otherwise_0 : decode cX10_otherwise 0 = .ok (.aload_n 0, 1) := dOf oX10_otherwise_0 0 rfl
theorem dX10_otherwise_1 : decode cX10_otherwise 1 = .ok (.invokevirtual 235, 3) := dOf oX10_otherwise_0 1 rfl
theorem dX10_otherwise_4 : decode cX10_otherwise 4 = .ok (.istore_n 1, 1) := dOf oX10_otherwise_0 2 rfl
theorem dX10_otherwise_5 : decode cX10_otherwise 5 = .ok (.iload_n 1, 1) := dOf oX10_otherwise_0 3 rfl
theorem dX10_otherwise_6 : decode cX10_otherwise 6 = .ok (.ifCond .ge 5, 3) := dOf oX10_otherwise_0 4 rfl
theorem dX10_otherwise_9 : decode cX10_otherwise 9 = .ok (.iload_n 1, 1) := dOf oX10_otherwise_0 5 rfl
theorem dX10_otherwise_10 : decode cX10_otherwise 10 = .ok (.ireturn, 1) := dOf oX10_otherwise_0 6 rfl
theorem dX10_otherwise_11 : decode cX10_otherwise 11 = .ok (.iconst 0, 1) := dOf oX10_otherwise_0 7 rfl
theorem dX10_otherwise_12 : decode cX10_otherwise 12 = .ok (.istore_n 2, 1) := dOf oX10_otherwise_0 8 rfl
theorem dX10_otherwise_13 : decode cX10_otherwise 13 = .ok (.iconst 0, 1) := dOf oX10_otherwise_0 9 rfl
theorem dX10_otherwise_14 : decode cX10_otherwise 14 = .ok (.istore_n 3, 1) := dOf oX10_otherwise_0 10 rfl
theorem dX10_otherwise_15 : decode cX10_otherwise 15 = .ok (.iload_n 3, 1) := dOf oX10_otherwise_0 11 rfl
theorem dX10_otherwise_16 : decode cX10_otherwise 16 = .ok (.aload_n 0, 1) := dOf oX10_otherwise_0 12 rfl
theorem dX10_otherwise_17 : decode cX10_otherwise 17 = .ok (.getfield 80, 3) := dOf oX10_otherwise_0 13 rfl
theorem dX10_otherwise_20 : decode cX10_otherwise 20 = .ok (.if_icmp .ge 121, 3) := dOf oX10_otherwise_0 14 rfl
theorem dX10_otherwise_23 : decode cX10_otherwise 23 = .ok (.aload_n 0, 1) := dOf oX10_otherwise_0 15 rfl
theorem dX10_otherwise_24 : decode cX10_otherwise 24 = .ok (.getfield 16, 3) := dOf oX10_otherwise_0 16 rfl
theorem dX10_otherwise_27 : decode cX10_otherwise 27 = .ok (.iload_n 3, 1) := dOf oX10_otherwise_0 17 rfl
theorem dX10_otherwise_28 : decode cX10_otherwise 28 = .ok (.iaload, 1) := dOf oX10_otherwise_0 18 rfl
theorem dX10_otherwise_29 : decode cX10_otherwise 29 = .ok (.iconst 2, 1) := dOf oX10_otherwise_0 19 rfl
theorem dX10_otherwise_30 : decode cX10_otherwise 30 = .ok (.if_icmp .ne 105, 3) := dOf oX10_otherwise_0 20 rfl
theorem dX10_otherwise_33 : decode cX10_otherwise 33 = .ok (.aload_n 0, 1) := dOf oX10_otherwise_0 21 rfl
theorem dX10_otherwise_34 : decode cX10_otherwise 34 = .ok (.aload_n 0, 1) := dOf oX10_otherwise_0 22 rfl
theorem dX10_otherwise_35 : decode cX10_otherwise 35 = .ok (.getfield 53, 3) := dOf oX10_otherwise_0 23 rfl
theorem dX10_otherwise_38 : decode cX10_otherwise 38 = .ok (.iconst 0, 1) := dOf oX10_otherwise_0 24 rfl
theorem dX10_otherwise_39 : decode cX10_otherwise 39 = .ok (.iload_n 3, 1) := dOf oX10_otherwise_0 25 rfl
theorem dX10_otherwise_40 : decode cX10_otherwise 40 = .ok (.invokevirtual 243, 3) := dOf oX10_otherwise_0 26 rfl
theorem dX10_otherwise_43 : decode cX10_otherwise 43 = .ok (.ifCond .eq 20, 3) := dOf oX10_otherwise_0 27 rfl
theorem dX10_otherwise_46 : decode cX10_otherwise 46 = .ok (.aload_n 0, 1) := dOf oX10_otherwise_0 28 rfl
theorem dX10_otherwise_47 : decode cX10_otherwise 47 = .ok (.getfield 150, 3) := dOf oX10_otherwise_0 29 rfl
theorem dX10_otherwise_50 : decode cX10_otherwise 50 = .ok (.aload_n 0, 1) := dOf oX10_otherwise_0 30 rfl
theorem dX10_otherwise_51 : decode cX10_otherwise 51 = .ok (.getfield 22, 3) := dOf oX10_otherwise_0 31 rfl
theorem dX10_otherwise_54 : decode cX10_otherwise 54 = .ok (.iload_n 3, 1) := dOf oX10_otherwise_0 32 rfl
theorem dX10_otherwise_55 : decode cX10_otherwise 55 = .ok (.iaload, 1) := dOf oX10_otherwise_0 33 rfl
theorem dX10_otherwise_56 : decode cX10_otherwise 56 = .ok (.if_icmp .ne 7, 3) := dOf oX10_otherwise_0 34 rfl
theorem dX10_otherwise_59 : decode cX10_otherwise 59 = .ok (.iconst 1, 1) := dOf oX10_otherwise_0 35 rfl
theorem dX10_otherwise_60 : decode cX10_otherwise 60 = .ok (.goto 4, 3) := dOf oX10_otherwise_0 36 rfl
theorem dX10_otherwise_63 : decode cX10_otherwise 63 = .ok (.iconst 0, 1) := dOf oX10_otherwise_0 37 rfl
theorem dX10_otherwise_64 : decode cX10_otherwise 64 = .ok (.istore 4, 2) := dOf oX10_otherwise_0 38 rfl
theorem dX10_otherwise_66 : decode cX10_otherwise 66 = .ok (.iconst 0, 1) := dOf oX10_otherwise_0 39 rfl
theorem dX10_otherwise_67 : decode cX10_otherwise 67 = .ok (.istore 5, 2) := dOf oX10_otherwise_0 40 rfl
theorem dX10_otherwise_69 : decode cX10_otherwise 69 = .ok (.iload 5, 2) := dOf oX10_otherwise_0 41 rfl
theorem dX10_otherwise_71 : decode cX10_otherwise 71 = .ok (.aload_n 0, 1) := dOf oX10_otherwise_0 42 rfl
theorem dX10_otherwise_72 : decode cX10_otherwise 72 = .ok (.getfield 22, 3) := dOf oX10_otherwise_0 43 rfl
theorem dX10_otherwise_75 : decode cX10_otherwise 75 = .ok (.iload_n 3, 1) := dOf oX10_otherwise_0 44 rfl
theorem dX10_otherwise_76 : decode cX10_otherwise 76 = .ok (.iaload, 1) := dOf oX10_otherwise_0 45 rfl
theorem dX10_otherwise_77 : decode cX10_otherwise 77 = .ok (.if_icmp .ge 43, 3) := dOf oX10_otherwise_0 46 rfl
theorem dX10_otherwise_80 : decode cX10_otherwise 80 = .ok (.iload 4, 2) := dOf oX10_otherwise_0 47 rfl
theorem dX10_otherwise_82 : decode cX10_otherwise 82 = .ok (.ifCond .eq 38, 3) := dOf oX10_otherwise_0 48 rfl
theorem dX10_otherwise_85 : decode cX10_otherwise 85 = .ok (.aload_n 0, 1) := dOf oX10_otherwise_0 49 rfl
theorem dX10_otherwise_86 : decode cX10_otherwise 86 = .ok (.getfield 31, 3) := dOf oX10_otherwise_0 50 rfl
theorem dX10_otherwise_89 : decode cX10_otherwise 89 = .ok (.iload 5, 2) := dOf oX10_otherwise_0 51 rfl
theorem dX10_otherwise_91 : decode cX10_otherwise 91 = .ok (.iaload, 1) := dOf oX10_otherwise_0 52 rfl
theorem dX10_otherwise_92 : decode cX10_otherwise 92 = .ok (.aload_n 0, 1) := dOf oX10_otherwise_0 53 rfl
theorem dX10_otherwise_93 : decode cX10_otherwise 93 = .ok (.getfield 19, 3) := dOf oX10_otherwise_0 54 rfl
theorem dX10_otherwise_96 : decode cX10_otherwise 96 = .ok (.bipush 36, 2) := dOf oX10_otherwise_0 55 rfl
theorem dX10_otherwise_98 : decode cX10_otherwise 98 = .ok (.iload_n 3, 1) := dOf oX10_otherwise_0 56 rfl
theorem dX10_otherwise_99 : decode cX10_otherwise 99 = .ok (.imul, 1) := dOf oX10_otherwise_0 57 rfl
theorem dX10_otherwise_100 : decode cX10_otherwise 100 = .ok (.iload 5, 2) := dOf oX10_otherwise_0 58 rfl
theorem dX10_otherwise_102 : decode cX10_otherwise 102 = .ok (.iadd, 1) := dOf oX10_otherwise_0 59 rfl
def eX10_otherwise_1 : List (Nat × Instr × Nat) := [(103, .iaload, 1), (104, .if_icmp .ne 7, 3), (107, .iconst 1, 1), (108, .goto 4, 3), (111, .iconst 0, 1), (112, .istore 4, 2), (114, .iinc 5 1, 3), (117, .goto (-48), 3), (120, .iload_n 2, 1), (121, .iload 4, 2), (123, .ifCond .eq 7, 3), (126, .iconst 0, 1), (127, .goto 6, 3), (130, .iconst 1, 1), (131, .iload_n 3, 1), (132, .ishl, 1), (133, .ior, 1), (134, .istore_n 2, 1), (135, .iinc 3 1, 3), (138, .goto (-123), 3), (141, .iload_n 2, 1), (142, .ireturn, 1)]
theorem oX10_otherwise_1 : okC cX10_otherwise eX10_otherwise_1 = true := by decide +kernel
theorem dX10_otherwise_103 : decode cX10_otherwise 103 = .ok (.iaload, 1) := dOf oX10_otherwise_1 0 rfl
theorem dX10_otherwise_104 : decode cX10_otherwise 104 = .ok (.if_icmp .ne 7, 3) := dOf oX10_otherwise_1 1 rfl
theorem dX10_otherwise_107 : decode cX10_otherwise 107 = .ok (.iconst 1, 1) := dOf oX10_otherwise_1 2 rfl
theorem dX10_otherwise_108 : decode cX10_otherwise 108 = .ok (.goto 4, 3) := dOf oX10_otherwise_1 3 rfl
theorem dX10_otherwise_111 : decode cX10_otherwise 111 = .ok (.iconst 0, 1) := dOf oX10_otherwise_1 4 rfl
theorem dX10_otherwise_112 : decode cX10_otherwise 112 = .ok (.istore 4, 2) := dOf oX10_otherwise_1 5 rfl
theorem dX10_otherwise_114 : decode cX10_otherwise 114 = .ok (.iinc 5 1, 3) := dOf oX10_otherwise_1 6 rfl
theorem dX10_otherwise_117 : decode cX10_otherwise 117 = .ok (.goto (-48), 3) := dOf oX10_otherwise_1 7 rfl
theorem dX10_otherwise_120 : decode cX10_otherwise 120 = .ok (.iload_n 2, 1) := dOf oX10_otherwise_1 8 rfl
theorem dX10_otherwise_121 : decode cX10_otherwise 121 = .ok (.iload 4, 2) := dOf oX10_otherwise_1 9 rfl
theorem dX10_otherwise_123 : decode cX10_otherwise 123 = .ok (.ifCond .eq 7, 3) := dOf oX10_otherwise_1 10 rfl
theorem dX10_otherwise_126 : decode cX10_otherwise 126 = .ok (.iconst 0, 1) := dOf oX10_otherwise_1 11 rfl
theorem dX10_otherwise_127 : decode cX10_otherwise 127 = .ok (.goto 6, 3) := dOf oX10_otherwise_1 12 rfl
theorem dX10_otherwise_130 : decode cX10_otherwise 130 = .ok (.iconst 1, 1) := dOf oX10_otherwise_1 13 rfl
theorem dX10_otherwise_131 : decode cX10_otherwise 131 = .ok (.iload_n 3, 1) := dOf oX10_otherwise_1 14 rfl
theorem dX10_otherwise_132 : decode cX10_otherwise 132 = .ok (.ishl, 1) := dOf oX10_otherwise_1 15 rfl
theorem dX10_otherwise_133 : decode cX10_otherwise 133 = .ok (.ior, 1) := dOf oX10_otherwise_1 16 rfl
theorem dX10_otherwise_134 : decode cX10_otherwise 134 = .ok (.istore_n 2, 1) := dOf oX10_otherwise_1 17 rfl
theorem dX10_otherwise_135 : decode cX10_otherwise 135 = .ok (.iinc 3 1, 3) := dOf oX10_otherwise_1 18 rfl
theorem dX10_otherwise_138 : decode cX10_otherwise 138 = .ok (.goto (-123), 3) := dOf oX10_otherwise_1 19 rfl
theorem dX10_otherwise_141 : decode cX10_otherwise 141 = .ok (.iload_n 2, 1) := dOf oX10_otherwise_1 20 rfl
theorem dX10_otherwise_142 : decode cX10_otherwise 142 = .ok (.ireturn, 1) := dOf oX10_otherwise_1 21 rfl
def eX10_addKept_0 : List (Nat × Instr × Nat) := [(0, .aload_n 0, 1), (1, .getfield 281, 3), (4, .iconst 4, 1), (5, .if_icmp .ne 6, 3), (8, .bipush (-3), 2), (10, .ireturn, 1), (11, .iconst 0, 1), (12, .istore_n 2, 1), (13, .iload_n 2, 1), (14, .iconst 3, 1), (15, .if_icmp .ge 25, 3), (18, .aload_n 0, 1), (19, .getfield 65, 3), (22, .iconst 3, 1), (23, .aload_n 0, 1), (24, .getfield 281, 3), (27, .imul, 1), (28, .iload_n 2, 1), (29, .iadd, 1), (30, .aload_n 1, 1), (31, .iload_n 2, 1), (32, .iaload, 1), (33, .iastore, 1), (34, .iinc 2 1, 3), (37, .goto (-24), 3), (40, .aload_n 0, 1), (41, .dup, 1), (42, .getfield 281, 3), (45, .iconst 1, 1), (46, .iadd, 1), (47, .putfield 281, 3), (50, .aload_n 0, 1), (51, .getfield 281, 3), (54, .iconst 1, 1), (55, .isub, 1), (56, .ireturn, 1)]
theorem oX10_addKept_0 : okC cX10_addKept eX10_addKept_0 = true := by decide +kernel
theorem dX10_addKept_0 : decode cX10_addKept 0 = .ok (.aload_n 0, 1) := dOf oX10_addKept_0 0 rfl
theorem dX10_addKept_1 : decode cX10_addKept 1 = .ok (.getfield 281, 3) := dOf oX10_addKept_0 1 rfl
theorem dX10_addKept_4 : decode cX10_addKept 4 = .ok (.iconst 4, 1) := dOf oX10_addKept_0 2 rfl
theorem dX10_addKept_5 : decode cX10_addKept 5 = .ok (.if_icmp .ne 6, 3) := dOf oX10_addKept_0 3 rfl
theorem dX10_addKept_8 : decode cX10_addKept 8 = .ok (.bipush (-3), 2) := dOf oX10_addKept_0 4 rfl
theorem dX10_addKept_10 : decode cX10_addKept 10 = .ok (.ireturn, 1) := dOf oX10_addKept_0 5 rfl
theorem dX10_addKept_11 : decode cX10_addKept 11 = .ok (.iconst 0, 1) := dOf oX10_addKept_0 6 rfl
theorem dX10_addKept_12 : decode cX10_addKept 12 = .ok (.istore_n 2, 1) := dOf oX10_addKept_0 7 rfl
theorem dX10_addKept_13 : decode cX10_addKept 13 = .ok (.iload_n 2, 1) := dOf oX10_addKept_0 8 rfl
theorem dX10_addKept_14 : decode cX10_addKept 14 = .ok (.iconst 3, 1) := dOf oX10_addKept_0 9 rfl
theorem dX10_addKept_15 : decode cX10_addKept 15 = .ok (.if_icmp .ge 25, 3) := dOf oX10_addKept_0 10 rfl
theorem dX10_addKept_18 : decode cX10_addKept 18 = .ok (.aload_n 0, 1) := dOf oX10_addKept_0 11 rfl
theorem dX10_addKept_19 : decode cX10_addKept 19 = .ok (.getfield 65, 3) := dOf oX10_addKept_0 12 rfl
theorem dX10_addKept_22 : decode cX10_addKept 22 = .ok (.iconst 3, 1) := dOf oX10_addKept_0 13 rfl
theorem dX10_addKept_23 : decode cX10_addKept 23 = .ok (.aload_n 0, 1) := dOf oX10_addKept_0 14 rfl
theorem dX10_addKept_24 : decode cX10_addKept 24 = .ok (.getfield 281, 3) := dOf oX10_addKept_0 15 rfl
theorem dX10_addKept_27 : decode cX10_addKept 27 = .ok (.imul, 1) := dOf oX10_addKept_0 16 rfl
theorem dX10_addKept_28 : decode cX10_addKept 28 = .ok (.iload_n 2, 1) := dOf oX10_addKept_0 17 rfl
theorem dX10_addKept_29 : decode cX10_addKept 29 = .ok (.iadd, 1) := dOf oX10_addKept_0 18 rfl
theorem dX10_addKept_30 : decode cX10_addKept 30 = .ok (.aload_n 1, 1) := dOf oX10_addKept_0 19 rfl
theorem dX10_addKept_31 : decode cX10_addKept 31 = .ok (.iload_n 2, 1) := dOf oX10_addKept_0 20 rfl
theorem dX10_addKept_32 : decode cX10_addKept 32 = .ok (.iaload, 1) := dOf oX10_addKept_0 21 rfl
theorem dX10_addKept_33 : decode cX10_addKept 33 = .ok (.iastore, 1) := dOf oX10_addKept_0 22 rfl
theorem dX10_addKept_34 : decode cX10_addKept 34 = .ok (.iinc 2 1, 3) := dOf oX10_addKept_0 23 rfl
theorem dX10_addKept_37 : decode cX10_addKept 37 = .ok (.goto (-24), 3) := dOf oX10_addKept_0 24 rfl
theorem dX10_addKept_40 : decode cX10_addKept 40 = .ok (.aload_n 0, 1) := dOf oX10_addKept_0 25 rfl
theorem dX10_addKept_41 : decode cX10_addKept 41 = .ok (.dup, 1) := dOf oX10_addKept_0 26 rfl
theorem dX10_addKept_42 : decode cX10_addKept 42 = .ok (.getfield 281, 3) := dOf oX10_addKept_0 27 rfl
theorem dX10_addKept_45 : decode cX10_addKept 45 = .ok (.iconst 1, 1) := dOf oX10_addKept_0 28 rfl
theorem dX10_addKept_46 : decode cX10_addKept 46 = .ok (.iadd, 1) := dOf oX10_addKept_0 29 rfl
theorem dX10_addKept_47 : decode cX10_addKept 47 = .ok (.putfield 281, 3) := dOf oX10_addKept_0 30 rfl
theorem dX10_addKept_50 : decode cX10_addKept 50 = .ok (.aload_n 0, 1) := dOf oX10_addKept_0 31 rfl
theorem dX10_addKept_51 : decode cX10_addKept 51 = .ok (.getfield 281, 3) := dOf oX10_addKept_0 32 rfl
theorem dX10_addKept_54 : decode cX10_addKept 54 = .ok (.iconst 1, 1) := dOf oX10_addKept_0 33 rfl
theorem dX10_addKept_55 : decode cX10_addKept 55 = .ok (.isub, 1) := dOf oX10_addKept_0 34 rfl
theorem dX10_addKept_56 : decode cX10_addKept 56 = .ok (.ireturn, 1) := dOf oX10_addKept_0 35 rfl
def eX10_keep_0 : List (Nat × Instr × Nat) := [(0, .aload_n 0, 1), (1, .invokevirtual 235, 3), (4, .istore_n 1, 1), (5, .iload_n 1, 1), (6, .ifCond .ge 7, 3), (9, .iload_n 1, 1), (10, .goto 11, 3), (13, .aload_n 0, 1), (14, .aload_n 0, 1), (15, .getfield 53, 3), (18, .invokevirtual 284, 3), (21, .ireturn, 1)]
theorem oX10_keep_0 : okC cX10_keep eX10_keep_0 = true := by decide +kernel
theorem dX10_keep_0 : decode cX10_keep 0 = .ok (.aload_n 0, 1) := dOf oX10_keep_0 0 rfl
theorem dX10_keep_1 : decode cX10_keep 1 = .ok (.invokevirtual 235, 3) := dOf oX10_keep_0 1 rfl
theorem dX10_keep_4 : decode cX10_keep 4 = .ok (.istore_n 1, 1) := dOf oX10_keep_0 2 rfl
theorem dX10_keep_5 : decode cX10_keep 5 = .ok (.iload_n 1, 1) := dOf oX10_keep_0 3 rfl
theorem dX10_keep_6 : decode cX10_keep 6 = .ok (.ifCond .ge 7, 3) := dOf oX10_keep_0 4 rfl
theorem dX10_keep_9 : decode cX10_keep 9 = .ok (.iload_n 1, 1) := dOf oX10_keep_0 5 rfl
theorem dX10_keep_10 : decode cX10_keep 10 = .ok (.goto 11, 3) := dOf oX10_keep_0 6 rfl
theorem dX10_keep_13 : decode cX10_keep 13 = .ok (.aload_n 0, 1) := dOf oX10_keep_0 7 rfl
theorem dX10_keep_14 : decode cX10_keep 14 = .ok (.aload_n 0, 1) := dOf oX10_keep_0 8 rfl
theorem dX10_keep_15 : decode cX10_keep 15 = .ok (.getfield 53, 3) := dOf oX10_keep_0 9 rfl
theorem dX10_keep_18 : decode cX10_keep 18 = .ok (.invokevirtual 284, 3) := dOf oX10_keep_0 10 rfl
theorem dX10_keep_21 : decode cX10_keep 21 = .ok (.ireturn, 1) := dOf oX10_keep_0 11 rfl
def eX10_next_0 : List (Nat × Instr × Nat) := [(0, .aload_n 0, 1), (1, .getfield 288, 3), (4, .aload_n 0, 1), (5, .getfield 96, 3), (8, .if_icmp .ge 30, 3), (11, .aload_n 0, 1), (12, .getfield 28, 3), (15, .aload_n 0, 1), (16, .getfield 288, 3), (19, .iaload, 1), (20, .bipush 32, 2), (22, .if_icmp .ne 16, 3), (25, .aload_n 0, 1), (26, .dup, 1), (27, .getfield 288, 3), (30, .iconst 1, 1), (31, .iadd, 1), (32, .putfield 288, 3), (35, .goto (-35), 3), (38, .aload_n 0, 1), (39, .getfield 288, 3), (42, .aload_n 0, 1), (43, .getfield 96, 3), (46, .if_icmp .ge 15, 3), (49, .aload_n 0, 1), (50, .getfield 28, 3), (53, .aload_n 0, 1), (54, .getfield 288, 3), (57, .iaload, 1), (58, .goto 4, 3), (61, .iconst (-1), 1), (62, .ireturn, 1)]
theorem oX10_next_0 : okC cX10_next eX10_next_0 = true := by decide +kernel
theorem dX10_next_0 : decode cX10_next 0 = .ok (.aload_n 0, 1) := dOf oX10_next_0 0 rfl
theorem dX10_next_1 : decode cX10_next 1 = .ok (.getfield 288, 3) := dOf oX10_next_0 1 rfl
theorem dX10_next_4 : decode cX10_next 4 = .ok (.aload_n 0, 1) := dOf oX10_next_0 2 rfl
theorem dX10_next_5 : decode cX10_next 5 = .ok (.getfield 96, 3) := dOf oX10_next_0 3 rfl
theorem dX10_next_8 : decode cX10_next 8 = .ok (.if_icmp .ge 30, 3) := dOf oX10_next_0 4 rfl
theorem dX10_next_11 : decode cX10_next 11 = .ok (.aload_n 0, 1) := dOf oX10_next_0 5 rfl
theorem dX10_next_12 : decode cX10_next 12 = .ok (.getfield 28, 3) := dOf oX10_next_0 6 rfl
theorem dX10_next_15 : decode cX10_next 15 = .ok (.aload_n 0, 1) := dOf oX10_next_0 7 rfl
theorem dX10_next_16 : decode cX10_next 16 = .ok (.getfield 288, 3) := dOf oX10_next_0 8 rfl
theorem dX10_next_19 : decode cX10_next 19 = .ok (.iaload, 1) := dOf oX10_next_0 9 rfl
theorem dX10_next_20 : decode cX10_next 20 = .ok (.bipush 32, 2) := dOf oX10_next_0 10 rfl
theorem dX10_next_22 : decode cX10_next 22 = .ok (.if_icmp .ne 16, 3) := dOf oX10_next_0 11 rfl
theorem dX10_next_25 : decode cX10_next 25 = .ok (.aload_n 0, 1) := dOf oX10_next_0 12 rfl
theorem dX10_next_26 : decode cX10_next 26 = .ok (.dup, 1) := dOf oX10_next_0 13 rfl
theorem dX10_next_27 : decode cX10_next 27 = .ok (.getfield 288, 3) := dOf oX10_next_0 14 rfl
theorem dX10_next_30 : decode cX10_next 30 = .ok (.iconst 1, 1) := dOf oX10_next_0 15 rfl
theorem dX10_next_31 : decode cX10_next 31 = .ok (.iadd, 1) := dOf oX10_next_0 16 rfl
theorem dX10_next_32 : decode cX10_next 32 = .ok (.putfield 288, 3) := dOf oX10_next_0 17 rfl
theorem dX10_next_35 : decode cX10_next 35 = .ok (.goto (-35), 3) := dOf oX10_next_0 18 rfl
theorem dX10_next_38 : decode cX10_next 38 = .ok (.aload_n 0, 1) := dOf oX10_next_0 19 rfl
theorem dX10_next_39 : decode cX10_next 39 = .ok (.getfield 288, 3) := dOf oX10_next_0 20 rfl
theorem dX10_next_42 : decode cX10_next 42 = .ok (.aload_n 0, 1) := dOf oX10_next_0 21 rfl
theorem dX10_next_43 : decode cX10_next 43 = .ok (.getfield 96, 3) := dOf oX10_next_0 22 rfl
theorem dX10_next_46 : decode cX10_next 46 = .ok (.if_icmp .ge 15, 3) := dOf oX10_next_0 23 rfl
theorem dX10_next_49 : decode cX10_next 49 = .ok (.aload_n 0, 1) := dOf oX10_next_0 24 rfl
theorem dX10_next_50 : decode cX10_next 50 = .ok (.getfield 28, 3) := dOf oX10_next_0 25 rfl
theorem dX10_next_53 : decode cX10_next 53 = .ok (.aload_n 0, 1) := dOf oX10_next_0 26 rfl
theorem dX10_next_54 : decode cX10_next 54 = .ok (.getfield 288, 3) := dOf oX10_next_0 27 rfl
theorem dX10_next_57 : decode cX10_next 57 = .ok (.iaload, 1) := dOf oX10_next_0 28 rfl
theorem dX10_next_58 : decode cX10_next 58 = .ok (.goto 4, 3) := dOf oX10_next_0 29 rfl
theorem dX10_next_61 : decode cX10_next 61 = .ok (.iconst (-1), 1) := dOf oX10_next_0 30 rfl
theorem dX10_next_62 : decode cX10_next 62 = .ok (.ireturn, 1) := dOf oX10_next_0 31 rfl
def eX10_oneOf_0 : List (Nat × Instr × Nat) := [(0, .aload_n 0, 1), (1, .invokevirtual 291, 3), (4, .istore 4, 2), (6, .iconst (-1), 1), (7, .istore 5, 2), (9, .iconst 0, 1), (10, .istore 6, 2), (12, .iload 6, 2), (14, .iload_n 3, 1), (15, .if_icmp .ge 40, 3), (18, .iload 4, 2), (20, .i2l, 1), (21, .lload_n 1, 1), (22, .bipush 8, 2), (24, .iload_n 3, 1), (25, .iconst 1, 1), (26, .isub, 1), (27, .iload 6, 2), (29, .isub, 1), (30, .imul, 1), (31, .lshr, 1), (32, .ldc2_w 90, 3), (35, .land, 1), (36, .lcmp, 1), (37, .ifCond .ne 8, 3), (40, .iload 6, 2), (42, .goto 5, 3), (45, .iload 5, 2), (47, .istore 5, 2), (49, .iinc 6 1, 3), (52, .goto (-40), 3), (55, .aload_n 0, 1), (56, .dup, 1), (57, .getfield 288, 3), (60, .iload 5, 2), (62, .ifCond .ge 7, 3), (65, .iconst 0, 1), (66, .goto 4, 3), (69, .iconst 1, 1), (70, .iadd, 1), (71, .putfield 288, 3), (74, .iload 5, 2), (76, .ireturn, 1)]
theorem oX10_oneOf_0 : okC cX10_oneOf eX10_oneOf_0 = true := by decide +kernel
theorem dX10_oneOf_0 : decode cX10_oneOf 0 = .ok (.aload_n 0, 1) := dOf oX10_oneOf_0 0 rfl
theorem dX10_oneOf_1 : decode cX10_oneOf 1 = .ok (.invokevirtual 291, 3) := dOf oX10_oneOf_0 1 rfl
theorem dX10_oneOf_4 : decode cX10_oneOf 4 = .ok (.istore 4, 2) := dOf oX10_oneOf_0 2 rfl
theorem dX10_oneOf_6 : decode cX10_oneOf 6 = .ok (.iconst (-1), 1) := dOf oX10_oneOf_0 3 rfl
theorem dX10_oneOf_7 : decode cX10_oneOf 7 = .ok (.istore 5, 2) := dOf oX10_oneOf_0 4 rfl
theorem dX10_oneOf_9 : decode cX10_oneOf 9 = .ok (.iconst 0, 1) := dOf oX10_oneOf_0 5 rfl
theorem dX10_oneOf_10 : decode cX10_oneOf 10 = .ok (.istore 6, 2) := dOf oX10_oneOf_0 6 rfl
theorem dX10_oneOf_12 : decode cX10_oneOf 12 = .ok (.iload 6, 2) := dOf oX10_oneOf_0 7 rfl
theorem dX10_oneOf_14 : decode cX10_oneOf 14 = .ok (.iload_n 3, 1) := dOf oX10_oneOf_0 8 rfl
theorem dX10_oneOf_15 : decode cX10_oneOf 15 = .ok (.if_icmp .ge 40, 3) := dOf oX10_oneOf_0 9 rfl
theorem dX10_oneOf_18 : decode cX10_oneOf 18 = .ok (.iload 4, 2) := dOf oX10_oneOf_0 10 rfl
theorem dX10_oneOf_20 : decode cX10_oneOf 20 = .ok (.i2l, 1) := dOf oX10_oneOf_0 11 rfl
theorem dX10_oneOf_21 : decode cX10_oneOf 21 = .ok (.lload_n 1, 1) := dOf oX10_oneOf_0 12 rfl
theorem dX10_oneOf_22 : decode cX10_oneOf 22 = .ok (.bipush 8, 2) := dOf oX10_oneOf_0 13 rfl
theorem dX10_oneOf_24 : decode cX10_oneOf 24 = .ok (.iload_n 3, 1) := dOf oX10_oneOf_0 14 rfl
theorem dX10_oneOf_25 : decode cX10_oneOf 25 = .ok (.iconst 1, 1) := dOf oX10_oneOf_0 15 rfl
theorem dX10_oneOf_26 : decode cX10_oneOf 26 = .ok (.isub, 1) := dOf oX10_oneOf_0 16 rfl
theorem dX10_oneOf_27 : decode cX10_oneOf 27 = .ok (.iload 6, 2) := dOf oX10_oneOf_0 17 rfl
theorem dX10_oneOf_29 : decode cX10_oneOf 29 = .ok (.isub, 1) := dOf oX10_oneOf_0 18 rfl
theorem dX10_oneOf_30 : decode cX10_oneOf 30 = .ok (.imul, 1) := dOf oX10_oneOf_0 19 rfl
theorem dX10_oneOf_31 : decode cX10_oneOf 31 = .ok (.lshr, 1) := dOf oX10_oneOf_0 20 rfl
theorem dX10_oneOf_32 : decode cX10_oneOf 32 = .ok (.ldc2_w 90, 3) := dOf oX10_oneOf_0 21 rfl
theorem dX10_oneOf_35 : decode cX10_oneOf 35 = .ok (.land, 1) := dOf oX10_oneOf_0 22 rfl
theorem dX10_oneOf_36 : decode cX10_oneOf 36 = .ok (.lcmp, 1) := dOf oX10_oneOf_0 23 rfl
theorem dX10_oneOf_37 : decode cX10_oneOf 37 = .ok (.ifCond .ne 8, 3) := dOf oX10_oneOf_0 24 rfl
theorem dX10_oneOf_40 : decode cX10_oneOf 40 = .ok (.iload 6, 2) := dOf oX10_oneOf_0 25 rfl
theorem dX10_oneOf_42 : decode cX10_oneOf 42 = .ok (.goto 5, 3) := dOf oX10_oneOf_0 26 rfl
theorem dX10_oneOf_45 : decode cX10_oneOf 45 = .ok (.iload 5, 2) := dOf oX10_oneOf_0 27 rfl
theorem dX10_oneOf_47 : decode cX10_oneOf 47 = .ok (.istore 5, 2) := dOf oX10_oneOf_0 28 rfl
theorem dX10_oneOf_49 : decode cX10_oneOf 49 = .ok (.iinc 6 1, 3) := dOf oX10_oneOf_0 29 rfl
theorem dX10_oneOf_52 : decode cX10_oneOf 52 = .ok (.goto (-40), 3) := dOf oX10_oneOf_0 30 rfl
theorem dX10_oneOf_55 : decode cX10_oneOf 55 = .ok (.aload_n 0, 1) := dOf oX10_oneOf_0 31 rfl
theorem dX10_oneOf_56 : decode cX10_oneOf 56 = .ok (.dup, 1) := dOf oX10_oneOf_0 32 rfl
theorem dX10_oneOf_57 : decode cX10_oneOf 57 = .ok (.getfield 288, 3) := dOf oX10_oneOf_0 33 rfl
theorem dX10_oneOf_60 : decode cX10_oneOf 60 = .ok (.iload 5, 2) := dOf oX10_oneOf_0 34 rfl
theorem dX10_oneOf_62 : decode cX10_oneOf 62 = .ok (.ifCond .ge 7, 3) := dOf oX10_oneOf_0 35 rfl
theorem dX10_oneOf_65 : decode cX10_oneOf 65 = .ok (.iconst 0, 1) := dOf oX10_oneOf_0 36 rfl
theorem dX10_oneOf_66 : decode cX10_oneOf 66 = .ok (.goto 4, 3) := dOf oX10_oneOf_0 37 rfl
theorem dX10_oneOf_69 : decode cX10_oneOf 69 = .ok (.iconst 1, 1) := dOf oX10_oneOf_0 38 rfl
theorem dX10_oneOf_70 : decode cX10_oneOf 70 = .ok (.iadd, 1) := dOf oX10_oneOf_0 39 rfl
theorem dX10_oneOf_71 : decode cX10_oneOf 71 = .ok (.putfield 288, 3) := dOf oX10_oneOf_0 40 rfl
theorem dX10_oneOf_74 : decode cX10_oneOf 74 = .ok (.iload 5, 2) := dOf oX10_oneOf_0 41 rfl
theorem dX10_oneOf_76 : decode cX10_oneOf 76 = .ok (.ireturn, 1) := dOf oX10_oneOf_0 42 rfl
def eX10_readPlace_0 : List (Nat × Instr × Nat) := [(0, .aload_n 0, 1), (1, .ldc2_w 294, 3), (4, .iconst 4, 1), (5, .invokevirtual 296, 3), (8, .istore_n 1, 1), (9, .iload_n 1, 1), (10, .ifCond .ge 5, 3), (13, .iconst (-1), 1), (14, .ireturn, 1), (15, .iload_n 1, 1), (16, .iconst 2, 1), (17, .if_icmp .ge 42, 3), (20, .aload_n 0, 1), (21, .invokevirtual 291, 3), (24, .bipush 48, 2), (26, .isub, 1), (27, .istore_n 2, 1), (28, .iload_n 2, 1), (29, .i2l, 1), (30, .lconst 0, 1), (31, .ldc2_w 300, 3), (34, .invokestatic 84, 3), (37, .ifCond .ne 5, 3), (40, .iconst (-1), 1), (41, .ireturn, 1), (42, .aload_n 0, 1), (43, .dup, 1), (44, .getfield 288, 3), (47, .iconst 1, 1), (48, .iadd, 1), (49, .putfield 288, 3), (52, .bipush 8, 2), (54, .iload_n 1, 1), (55, .imul, 1), (56, .iload_n 2, 1), (57, .iadd, 1), (58, .ireturn, 1), (59, .aload_n 0, 1), (60, .ldc2_w 302, 3), (63, .iconst 4, 1), (64, .invokevirtual 296, 3), (67, .istore_n 2, 1), (68, .iload_n 2, 1), (69, .ifCond .ge 7, 3), (72, .iconst (-1), 1), (73, .goto 11, 3), (76, .aload_n 0, 1), (77, .ldc2_w 304, 3), (80, .iconst 3, 1), (81, .invokevirtual 296, 3), (84, .istore_n 3, 1), (85, .iload_n 3, 1), (86, .ifCond .ge 7, 3), (89, .iconst (-1), 1), (90, .goto 18, 3), (93, .bipush 16, 2), (95, .bipush 6, 2), (97, .iload_n 2, 1), (98, .imul, 1), (99, .iadd, 1)]
theorem oX10_readPlace_0 : okC cX10_readPlace eX10_readPlace_0 = true := by decide +kernel
theorem dX10_readPlace_0 : decode cX10_readPlace 0 = .ok (.aload_n 0, 1) := dOf oX10_readPlace_0 0 rfl
theorem dX10_readPlace_1 : decode cX10_readPlace 1 = .ok (.ldc2_w 294, 3) := dOf oX10_readPlace_0 1 rfl
theorem dX10_readPlace_4 : decode cX10_readPlace 4 = .ok (.iconst 4, 1) := dOf oX10_readPlace_0 2 rfl
theorem dX10_readPlace_5 : decode cX10_readPlace 5 = .ok (.invokevirtual 296, 3) := dOf oX10_readPlace_0 3 rfl
theorem dX10_readPlace_8 : decode cX10_readPlace 8 = .ok (.istore_n 1, 1) := dOf oX10_readPlace_0 4 rfl
theorem dX10_readPlace_9 : decode cX10_readPlace 9 = .ok (.iload_n 1, 1) := dOf oX10_readPlace_0 5 rfl
theorem dX10_readPlace_10 : decode cX10_readPlace 10 = .ok (.ifCond .ge 5, 3) := dOf oX10_readPlace_0 6 rfl
theorem dX10_readPlace_13 : decode cX10_readPlace 13 = .ok (.iconst (-1), 1) := dOf oX10_readPlace_0 7 rfl
theorem dX10_readPlace_14 : decode cX10_readPlace 14 = .ok (.ireturn, 1) := dOf oX10_readPlace_0 8 rfl
theorem dX10_readPlace_15 : decode cX10_readPlace 15 = .ok (.iload_n 1, 1) := dOf oX10_readPlace_0 9 rfl
theorem dX10_readPlace_16 : decode cX10_readPlace 16 = .ok (.iconst 2, 1) := dOf oX10_readPlace_0 10 rfl
theorem dX10_readPlace_17 : decode cX10_readPlace 17 = .ok (.if_icmp .ge 42, 3) := dOf oX10_readPlace_0 11 rfl
theorem dX10_readPlace_20 : decode cX10_readPlace 20 = .ok (.aload_n 0, 1) := dOf oX10_readPlace_0 12 rfl
theorem dX10_readPlace_21 : decode cX10_readPlace 21 = .ok (.invokevirtual 291, 3) := dOf oX10_readPlace_0 13 rfl
theorem dX10_readPlace_24 : decode cX10_readPlace 24 = .ok (.bipush 48, 2) := dOf oX10_readPlace_0 14 rfl
theorem dX10_readPlace_26 : decode cX10_readPlace 26 = .ok (.isub, 1) := dOf oX10_readPlace_0 15 rfl
theorem dX10_readPlace_27 : decode cX10_readPlace 27 = .ok (.istore_n 2, 1) := dOf oX10_readPlace_0 16 rfl
theorem dX10_readPlace_28 : decode cX10_readPlace 28 = .ok (.iload_n 2, 1) := dOf oX10_readPlace_0 17 rfl
theorem dX10_readPlace_29 : decode cX10_readPlace 29 = .ok (.i2l, 1) := dOf oX10_readPlace_0 18 rfl
theorem dX10_readPlace_30 : decode cX10_readPlace 30 = .ok (.lconst 0, 1) := dOf oX10_readPlace_0 19 rfl
theorem dX10_readPlace_31 : decode cX10_readPlace 31 = .ok (.ldc2_w 300, 3) := dOf oX10_readPlace_0 20 rfl
theorem dX10_readPlace_34 : decode cX10_readPlace 34 = .ok (.invokestatic 84, 3) := dOf oX10_readPlace_0 21 rfl
theorem dX10_readPlace_37 : decode cX10_readPlace 37 = .ok (.ifCond .ne 5, 3) := dOf oX10_readPlace_0 22 rfl
theorem dX10_readPlace_40 : decode cX10_readPlace 40 = .ok (.iconst (-1), 1) := dOf oX10_readPlace_0 23 rfl
theorem dX10_readPlace_41 : decode cX10_readPlace 41 = .ok (.ireturn, 1) := dOf oX10_readPlace_0 24 rfl
theorem dX10_readPlace_42 : decode cX10_readPlace 42 = .ok (.aload_n 0, 1) := dOf oX10_readPlace_0 25 rfl
theorem dX10_readPlace_43 : decode cX10_readPlace 43 = .ok (.dup, 1) := dOf oX10_readPlace_0 26 rfl
theorem dX10_readPlace_44 : decode cX10_readPlace 44 = .ok (.getfield 288, 3) := dOf oX10_readPlace_0 27 rfl
theorem dX10_readPlace_47 : decode cX10_readPlace 47 = .ok (.iconst 1, 1) := dOf oX10_readPlace_0 28 rfl
theorem dX10_readPlace_48 : decode cX10_readPlace 48 = .ok (.iadd, 1) := dOf oX10_readPlace_0 29 rfl
theorem dX10_readPlace_49 : decode cX10_readPlace 49 = .ok (.putfield 288, 3) := dOf oX10_readPlace_0 30 rfl
theorem dX10_readPlace_52 : decode cX10_readPlace 52 = .ok (.bipush 8, 2) := dOf oX10_readPlace_0 31 rfl
theorem dX10_readPlace_54 : decode cX10_readPlace 54 = .ok (.iload_n 1, 1) := dOf oX10_readPlace_0 32 rfl
theorem dX10_readPlace_55 : decode cX10_readPlace 55 = .ok (.imul, 1) := dOf oX10_readPlace_0 33 rfl
theorem dX10_readPlace_56 : decode cX10_readPlace 56 = .ok (.iload_n 2, 1) := dOf oX10_readPlace_0 34 rfl
theorem dX10_readPlace_57 : decode cX10_readPlace 57 = .ok (.iadd, 1) := dOf oX10_readPlace_0 35 rfl
theorem dX10_readPlace_58 : decode cX10_readPlace 58 = .ok (.ireturn, 1) := dOf oX10_readPlace_0 36 rfl
theorem dX10_readPlace_59 : decode cX10_readPlace 59 = .ok (.aload_n 0, 1) := dOf oX10_readPlace_0 37 rfl
theorem dX10_readPlace_60 : decode cX10_readPlace 60 = .ok (.ldc2_w 302, 3) := dOf oX10_readPlace_0 38 rfl
theorem dX10_readPlace_63 : decode cX10_readPlace 63 = .ok (.iconst 4, 1) := dOf oX10_readPlace_0 39 rfl
theorem dX10_readPlace_64 : decode cX10_readPlace 64 = .ok (.invokevirtual 296, 3) := dOf oX10_readPlace_0 40 rfl
theorem dX10_readPlace_67 : decode cX10_readPlace 67 = .ok (.istore_n 2, 1) := dOf oX10_readPlace_0 41 rfl
theorem dX10_readPlace_68 : decode cX10_readPlace 68 = .ok (.iload_n 2, 1) := dOf oX10_readPlace_0 42 rfl
theorem dX10_readPlace_69 : decode cX10_readPlace 69 = .ok (.ifCond .ge 7, 3) := dOf oX10_readPlace_0 43 rfl
theorem dX10_readPlace_72 : decode cX10_readPlace 72 = .ok (.iconst (-1), 1) := dOf oX10_readPlace_0 44 rfl
theorem dX10_readPlace_73 : decode cX10_readPlace 73 = .ok (.goto 11, 3) := dOf oX10_readPlace_0 45 rfl
theorem dX10_readPlace_76 : decode cX10_readPlace 76 = .ok (.aload_n 0, 1) := dOf oX10_readPlace_0 46 rfl
theorem dX10_readPlace_77 : decode cX10_readPlace 77 = .ok (.ldc2_w 304, 3) := dOf oX10_readPlace_0 47 rfl
theorem dX10_readPlace_80 : decode cX10_readPlace 80 = .ok (.iconst 3, 1) := dOf oX10_readPlace_0 48 rfl
theorem dX10_readPlace_81 : decode cX10_readPlace 81 = .ok (.invokevirtual 296, 3) := dOf oX10_readPlace_0 49 rfl
theorem dX10_readPlace_84 : decode cX10_readPlace 84 = .ok (.istore_n 3, 1) := dOf oX10_readPlace_0 50 rfl
theorem dX10_readPlace_85 : decode cX10_readPlace 85 = .ok (.iload_n 3, 1) := dOf oX10_readPlace_0 51 rfl
theorem dX10_readPlace_86 : decode cX10_readPlace 86 = .ok (.ifCond .ge 7, 3) := dOf oX10_readPlace_0 52 rfl
theorem dX10_readPlace_89 : decode cX10_readPlace 89 = .ok (.iconst (-1), 1) := dOf oX10_readPlace_0 53 rfl
theorem dX10_readPlace_90 : decode cX10_readPlace 90 = .ok (.goto 18, 3) := dOf oX10_readPlace_0 54 rfl
theorem dX10_readPlace_93 : decode cX10_readPlace 93 = .ok (.bipush 16, 2) := dOf oX10_readPlace_0 55 rfl
theorem dX10_readPlace_95 : decode cX10_readPlace 95 = .ok (.bipush 6, 2) := dOf oX10_readPlace_0 56 rfl
theorem dX10_readPlace_97 : decode cX10_readPlace 97 = .ok (.iload_n 2, 1) := dOf oX10_readPlace_0 57 rfl
theorem dX10_readPlace_98 : decode cX10_readPlace 98 = .ok (.imul, 1) := dOf oX10_readPlace_0 58 rfl
theorem dX10_readPlace_99 : decode cX10_readPlace 99 = .ok (.iadd, 1) := dOf oX10_readPlace_0 59 rfl
def eX10_readPlace_1 : List (Nat × Instr × Nat) := [(100, .iconst 3, 1), (101, .iload_n 1, 1), (102, .iconst 2, 1), (103, .isub, 1), (104, .imul, 1), (105, .iadd, 1), (106, .iload_n 3, 1), (107, .iadd, 1), (108, .ireturn, 1)]
theorem oX10_readPlace_1 : okC cX10_readPlace eX10_readPlace_1 = true := by decide +kernel
theorem dX10_readPlace_100 : decode cX10_readPlace 100 = .ok (.iconst 3, 1) := dOf oX10_readPlace_1 0 rfl
theorem dX10_readPlace_101 : decode cX10_readPlace 101 = .ok (.iload_n 1, 1) := dOf oX10_readPlace_1 1 rfl
theorem dX10_readPlace_102 : decode cX10_readPlace 102 = .ok (.iconst 2, 1) := dOf oX10_readPlace_1 2 rfl
theorem dX10_readPlace_103 : decode cX10_readPlace 103 = .ok (.isub, 1) := dOf oX10_readPlace_1 3 rfl
theorem dX10_readPlace_104 : decode cX10_readPlace 104 = .ok (.imul, 1) := dOf oX10_readPlace_1 4 rfl
theorem dX10_readPlace_105 : decode cX10_readPlace 105 = .ok (.iadd, 1) := dOf oX10_readPlace_1 5 rfl
theorem dX10_readPlace_106 : decode cX10_readPlace 106 = .ok (.iload_n 3, 1) := dOf oX10_readPlace_1 6 rfl
theorem dX10_readPlace_107 : decode cX10_readPlace 107 = .ok (.iadd, 1) := dOf oX10_readPlace_1 7 rfl
theorem dX10_readPlace_108 : decode cX10_readPlace 108 = .ok (.ireturn, 1) := dOf oX10_readPlace_1 8 rfl
def eX10_readTyped_0 : List (Nat × Instr × Nat) := [(0, .aload_n 0, 1), (1, .dup, 1), (2, .getfield 288, 3), (5, .iconst 1, 1), (6, .iadd, 1), (7, .putfield 288, 3), (10, .iconst 0, 1), (11, .istore_n 1, 1), (12, .iconst 0, 1), (13, .istore_n 2, 1), (14, .aload_n 0, 1), (15, .getfield 288, 3), (18, .aload_n 0, 1), (19, .getfield 96, 3), (22, .if_icmp .ge 54, 3), (25, .aload_n 0, 1), (26, .getfield 28, 3), (29, .aload_n 0, 1), (30, .getfield 288, 3), (33, .iaload, 1), (34, .bipush 34, 2), (36, .if_icmp .eq 40, 3), (39, .iload_n 1, 1), (40, .iconst 3, 1), (41, .if_icmp .ge 35, 3), (44, .sipush 256, 3), (47, .iload_n 2, 1), (48, .imul, 1), (49, .aload_n 0, 1), (50, .getfield 28, 3), (53, .aload_n 0, 1), (54, .getfield 288, 3), (57, .iaload, 1), (58, .iadd, 1), (59, .istore_n 2, 1), (60, .iinc 1 1, 3), (63, .aload_n 0, 1), (64, .dup, 1), (65, .getfield 288, 3), (68, .iconst 1, 1), (69, .iadd, 1), (70, .putfield 288, 3), (73, .goto (-59), 3), (76, .iload_n 1, 1), (77, .ifCond .eq 28, 3), (80, .aload_n 0, 1), (81, .getfield 288, 3), (84, .aload_n 0, 1), (85, .getfield 96, 3), (88, .if_icmp .eq 17, 3), (91, .aload_n 0, 1), (92, .getfield 28, 3), (95, .aload_n 0, 1), (96, .getfield 288, 3), (99, .iaload, 1), (100, .bipush 34, 2), (102, .if_icmp .eq 5, 3), (105, .iconst (-1), 1), (106, .ireturn, 1), (107, .aload_n 0, 1)]
theorem oX10_readTyped_0 : okC cX10_readTyped eX10_readTyped_0 = true := by decide +kernel
theorem dX10_readTyped_0 : decode cX10_readTyped 0 = .ok (.aload_n 0, 1) := dOf oX10_readTyped_0 0 rfl
theorem dX10_readTyped_1 : decode cX10_readTyped 1 = .ok (.dup, 1) := dOf oX10_readTyped_0 1 rfl
theorem dX10_readTyped_2 : decode cX10_readTyped 2 = .ok (.getfield 288, 3) := dOf oX10_readTyped_0 2 rfl
theorem dX10_readTyped_5 : decode cX10_readTyped 5 = .ok (.iconst 1, 1) := dOf oX10_readTyped_0 3 rfl
theorem dX10_readTyped_6 : decode cX10_readTyped 6 = .ok (.iadd, 1) := dOf oX10_readTyped_0 4 rfl
theorem dX10_readTyped_7 : decode cX10_readTyped 7 = .ok (.putfield 288, 3) := dOf oX10_readTyped_0 5 rfl
theorem dX10_readTyped_10 : decode cX10_readTyped 10 = .ok (.iconst 0, 1) := dOf oX10_readTyped_0 6 rfl
theorem dX10_readTyped_11 : decode cX10_readTyped 11 = .ok (.istore_n 1, 1) := dOf oX10_readTyped_0 7 rfl
theorem dX10_readTyped_12 : decode cX10_readTyped 12 = .ok (.iconst 0, 1) := dOf oX10_readTyped_0 8 rfl
theorem dX10_readTyped_13 : decode cX10_readTyped 13 = .ok (.istore_n 2, 1) := dOf oX10_readTyped_0 9 rfl
theorem dX10_readTyped_14 : decode cX10_readTyped 14 = .ok (.aload_n 0, 1) := dOf oX10_readTyped_0 10 rfl
theorem dX10_readTyped_15 : decode cX10_readTyped 15 = .ok (.getfield 288, 3) := dOf oX10_readTyped_0 11 rfl
theorem dX10_readTyped_18 : decode cX10_readTyped 18 = .ok (.aload_n 0, 1) := dOf oX10_readTyped_0 12 rfl
theorem dX10_readTyped_19 : decode cX10_readTyped 19 = .ok (.getfield 96, 3) := dOf oX10_readTyped_0 13 rfl
theorem dX10_readTyped_22 : decode cX10_readTyped 22 = .ok (.if_icmp .ge 54, 3) := dOf oX10_readTyped_0 14 rfl
theorem dX10_readTyped_25 : decode cX10_readTyped 25 = .ok (.aload_n 0, 1) := dOf oX10_readTyped_0 15 rfl
theorem dX10_readTyped_26 : decode cX10_readTyped 26 = .ok (.getfield 28, 3) := dOf oX10_readTyped_0 16 rfl
theorem dX10_readTyped_29 : decode cX10_readTyped 29 = .ok (.aload_n 0, 1) := dOf oX10_readTyped_0 17 rfl
theorem dX10_readTyped_30 : decode cX10_readTyped 30 = .ok (.getfield 288, 3) := dOf oX10_readTyped_0 18 rfl
theorem dX10_readTyped_33 : decode cX10_readTyped 33 = .ok (.iaload, 1) := dOf oX10_readTyped_0 19 rfl
theorem dX10_readTyped_34 : decode cX10_readTyped 34 = .ok (.bipush 34, 2) := dOf oX10_readTyped_0 20 rfl
theorem dX10_readTyped_36 : decode cX10_readTyped 36 = .ok (.if_icmp .eq 40, 3) := dOf oX10_readTyped_0 21 rfl
theorem dX10_readTyped_39 : decode cX10_readTyped 39 = .ok (.iload_n 1, 1) := dOf oX10_readTyped_0 22 rfl
theorem dX10_readTyped_40 : decode cX10_readTyped 40 = .ok (.iconst 3, 1) := dOf oX10_readTyped_0 23 rfl
theorem dX10_readTyped_41 : decode cX10_readTyped 41 = .ok (.if_icmp .ge 35, 3) := dOf oX10_readTyped_0 24 rfl
theorem dX10_readTyped_44 : decode cX10_readTyped 44 = .ok (.sipush 256, 3) := dOf oX10_readTyped_0 25 rfl
theorem dX10_readTyped_47 : decode cX10_readTyped 47 = .ok (.iload_n 2, 1) := dOf oX10_readTyped_0 26 rfl
theorem dX10_readTyped_48 : decode cX10_readTyped 48 = .ok (.imul, 1) := dOf oX10_readTyped_0 27 rfl
theorem dX10_readTyped_49 : decode cX10_readTyped 49 = .ok (.aload_n 0, 1) := dOf oX10_readTyped_0 28 rfl
theorem dX10_readTyped_50 : decode cX10_readTyped 50 = .ok (.getfield 28, 3) := dOf oX10_readTyped_0 29 rfl
theorem dX10_readTyped_53 : decode cX10_readTyped 53 = .ok (.aload_n 0, 1) := dOf oX10_readTyped_0 30 rfl
theorem dX10_readTyped_54 : decode cX10_readTyped 54 = .ok (.getfield 288, 3) := dOf oX10_readTyped_0 31 rfl
theorem dX10_readTyped_57 : decode cX10_readTyped 57 = .ok (.iaload, 1) := dOf oX10_readTyped_0 32 rfl
theorem dX10_readTyped_58 : decode cX10_readTyped 58 = .ok (.iadd, 1) := dOf oX10_readTyped_0 33 rfl
theorem dX10_readTyped_59 : decode cX10_readTyped 59 = .ok (.istore_n 2, 1) := dOf oX10_readTyped_0 34 rfl
theorem dX10_readTyped_60 : decode cX10_readTyped 60 = .ok (.iinc 1 1, 3) := dOf oX10_readTyped_0 35 rfl
theorem dX10_readTyped_63 : decode cX10_readTyped 63 = .ok (.aload_n 0, 1) := dOf oX10_readTyped_0 36 rfl
theorem dX10_readTyped_64 : decode cX10_readTyped 64 = .ok (.dup, 1) := dOf oX10_readTyped_0 37 rfl
theorem dX10_readTyped_65 : decode cX10_readTyped 65 = .ok (.getfield 288, 3) := dOf oX10_readTyped_0 38 rfl
theorem dX10_readTyped_68 : decode cX10_readTyped 68 = .ok (.iconst 1, 1) := dOf oX10_readTyped_0 39 rfl
theorem dX10_readTyped_69 : decode cX10_readTyped 69 = .ok (.iadd, 1) := dOf oX10_readTyped_0 40 rfl
theorem dX10_readTyped_70 : decode cX10_readTyped 70 = .ok (.putfield 288, 3) := dOf oX10_readTyped_0 41 rfl
theorem dX10_readTyped_73 : decode cX10_readTyped 73 = .ok (.goto (-59), 3) := dOf oX10_readTyped_0 42 rfl
theorem dX10_readTyped_76 : decode cX10_readTyped 76 = .ok (.iload_n 1, 1) := dOf oX10_readTyped_0 43 rfl
theorem dX10_readTyped_77 : decode cX10_readTyped 77 = .ok (.ifCond .eq 28, 3) := dOf oX10_readTyped_0 44 rfl
theorem dX10_readTyped_80 : decode cX10_readTyped 80 = .ok (.aload_n 0, 1) := dOf oX10_readTyped_0 45 rfl
theorem dX10_readTyped_81 : decode cX10_readTyped 81 = .ok (.getfield 288, 3) := dOf oX10_readTyped_0 46 rfl
theorem dX10_readTyped_84 : decode cX10_readTyped 84 = .ok (.aload_n 0, 1) := dOf oX10_readTyped_0 47 rfl
theorem dX10_readTyped_85 : decode cX10_readTyped 85 = .ok (.getfield 96, 3) := dOf oX10_readTyped_0 48 rfl
theorem dX10_readTyped_88 : decode cX10_readTyped 88 = .ok (.if_icmp .eq 17, 3) := dOf oX10_readTyped_0 49 rfl
theorem dX10_readTyped_91 : decode cX10_readTyped 91 = .ok (.aload_n 0, 1) := dOf oX10_readTyped_0 50 rfl
theorem dX10_readTyped_92 : decode cX10_readTyped 92 = .ok (.getfield 28, 3) := dOf oX10_readTyped_0 51 rfl
theorem dX10_readTyped_95 : decode cX10_readTyped 95 = .ok (.aload_n 0, 1) := dOf oX10_readTyped_0 52 rfl
theorem dX10_readTyped_96 : decode cX10_readTyped 96 = .ok (.getfield 288, 3) := dOf oX10_readTyped_0 53 rfl
theorem dX10_readTyped_99 : decode cX10_readTyped 99 = .ok (.iaload, 1) := dOf oX10_readTyped_0 54 rfl
theorem dX10_readTyped_100 : decode cX10_readTyped 100 = .ok (.bipush 34, 2) := dOf oX10_readTyped_0 55 rfl
theorem dX10_readTyped_102 : decode cX10_readTyped 102 = .ok (.if_icmp .eq 5, 3) := dOf oX10_readTyped_0 56 rfl
theorem dX10_readTyped_105 : decode cX10_readTyped 105 = .ok (.iconst (-1), 1) := dOf oX10_readTyped_0 57 rfl
theorem dX10_readTyped_106 : decode cX10_readTyped 106 = .ok (.ireturn, 1) := dOf oX10_readTyped_0 58 rfl
theorem dX10_readTyped_107 : decode cX10_readTyped 107 = .ok (.aload_n 0, 1) := dOf oX10_readTyped_0 59 rfl
def eX10_readTyped_1 : List (Nat × Instr × Nat) := [(108, .dup, 1), (109, .getfield 288, 3), (112, .iconst 1, 1), (113, .iadd, 1), (114, .putfield 288, 3), (117, .ldc 149, 2), (119, .iload_n 1, 1), (120, .imul, 1), (121, .iload_n 2, 1), (122, .iadd, 1), (123, .ireturn, 1)]
theorem oX10_readTyped_1 : okC cX10_readTyped eX10_readTyped_1 = true := by decide +kernel
theorem dX10_readTyped_108 : decode cX10_readTyped 108 = .ok (.dup, 1) := dOf oX10_readTyped_1 0 rfl
theorem dX10_readTyped_109 : decode cX10_readTyped 109 = .ok (.getfield 288, 3) := dOf oX10_readTyped_1 1 rfl
theorem dX10_readTyped_112 : decode cX10_readTyped 112 = .ok (.iconst 1, 1) := dOf oX10_readTyped_1 2 rfl
theorem dX10_readTyped_113 : decode cX10_readTyped 113 = .ok (.iadd, 1) := dOf oX10_readTyped_1 3 rfl
theorem dX10_readTyped_114 : decode cX10_readTyped 114 = .ok (.putfield 288, 3) := dOf oX10_readTyped_1 4 rfl
theorem dX10_readTyped_117 : decode cX10_readTyped 117 = .ok (.ldc 149, 2) := dOf oX10_readTyped_1 5 rfl
theorem dX10_readTyped_119 : decode cX10_readTyped 119 = .ok (.iload_n 1, 1) := dOf oX10_readTyped_1 6 rfl
theorem dX10_readTyped_120 : decode cX10_readTyped 120 = .ok (.imul, 1) := dOf oX10_readTyped_1 7 rfl
theorem dX10_readTyped_121 : decode cX10_readTyped 121 = .ok (.iload_n 2, 1) := dOf oX10_readTyped_1 8 rfl
theorem dX10_readTyped_122 : decode cX10_readTyped 122 = .ok (.iadd, 1) := dOf oX10_readTyped_1 9 rfl
theorem dX10_readTyped_123 : decode cX10_readTyped 123 = .ok (.ireturn, 1) := dOf oX10_readTyped_1 10 rfl
def eX10_readCut_0 : List (Nat × Instr × Nat) := [(0, .aload_n 0, 1), (1, .invokevirtual 306, 3), (4, .istore_n 1, 1), (5, .iload_n 1, 1), (6, .ifCond .lt 12, 3), (9, .aload_n 0, 1), (10, .invokevirtual 291, 3), (13, .bipush 44, 2), (15, .if_icmp .eq 5, 3), (18, .iconst (-1), 1), (19, .ireturn, 1), (20, .aload_n 0, 1), (21, .dup, 1), (22, .getfield 288, 3), (25, .iconst 1, 1), (26, .iadd, 1), (27, .putfield 288, 3), (30, .aload_n 0, 1), (31, .invokevirtual 306, 3), (34, .istore_n 2, 1), (35, .iload_n 2, 1), (36, .ifCond .ge 5, 3), (39, .iconst (-1), 1), (40, .ireturn, 1), (41, .aload_n 0, 1), (42, .invokevirtual 291, 3), (45, .bipush 117, 2), (47, .if_icmp .ne 7, 3), (50, .iconst 1, 1), (51, .goto 17, 3), (54, .aload_n 0, 1), (55, .invokevirtual 291, 3), (58, .bipush 108, 2), (60, .if_icmp .ne 7, 3), (63, .iconst 2, 1), (64, .goto 4, 3), (67, .iconst 0, 1), (68, .istore_n 3, 1), (69, .aload_n 0, 1), (70, .dup, 1), (71, .getfield 288, 3), (74, .iload_n 3, 1), (75, .ifCond .le 7, 3), (78, .iconst 1, 1), (79, .goto 4, 3), (82, .iconst 0, 1), (83, .iadd, 1), (84, .putfield 288, 3), (87, .bipush 120, 2), (89, .iload_n 1, 1), (90, .imul, 1), (91, .iconst 3, 1), (92, .iload_n 2, 1), (93, .imul, 1), (94, .iadd, 1), (95, .iload_n 3, 1), (96, .iadd, 1), (97, .ireturn, 1)]
theorem oX10_readCut_0 : okC cX10_readCut eX10_readCut_0 = true := by decide +kernel
theorem dX10_readCut_0 : decode cX10_readCut 0 = .ok (.aload_n 0, 1) := dOf oX10_readCut_0 0 rfl
theorem dX10_readCut_1 : decode cX10_readCut 1 = .ok (.invokevirtual 306, 3) := dOf oX10_readCut_0 1 rfl
theorem dX10_readCut_4 : decode cX10_readCut 4 = .ok (.istore_n 1, 1) := dOf oX10_readCut_0 2 rfl
theorem dX10_readCut_5 : decode cX10_readCut 5 = .ok (.iload_n 1, 1) := dOf oX10_readCut_0 3 rfl
theorem dX10_readCut_6 : decode cX10_readCut 6 = .ok (.ifCond .lt 12, 3) := dOf oX10_readCut_0 4 rfl
theorem dX10_readCut_9 : decode cX10_readCut 9 = .ok (.aload_n 0, 1) := dOf oX10_readCut_0 5 rfl
theorem dX10_readCut_10 : decode cX10_readCut 10 = .ok (.invokevirtual 291, 3) := dOf oX10_readCut_0 6 rfl
theorem dX10_readCut_13 : decode cX10_readCut 13 = .ok (.bipush 44, 2) := dOf oX10_readCut_0 7 rfl
theorem dX10_readCut_15 : decode cX10_readCut 15 = .ok (.if_icmp .eq 5, 3) := dOf oX10_readCut_0 8 rfl
theorem dX10_readCut_18 : decode cX10_readCut 18 = .ok (.iconst (-1), 1) := dOf oX10_readCut_0 9 rfl
theorem dX10_readCut_19 : decode cX10_readCut 19 = .ok (.ireturn, 1) := dOf oX10_readCut_0 10 rfl
theorem dX10_readCut_20 : decode cX10_readCut 20 = .ok (.aload_n 0, 1) := dOf oX10_readCut_0 11 rfl
theorem dX10_readCut_21 : decode cX10_readCut 21 = .ok (.dup, 1) := dOf oX10_readCut_0 12 rfl
theorem dX10_readCut_22 : decode cX10_readCut 22 = .ok (.getfield 288, 3) := dOf oX10_readCut_0 13 rfl
theorem dX10_readCut_25 : decode cX10_readCut 25 = .ok (.iconst 1, 1) := dOf oX10_readCut_0 14 rfl
theorem dX10_readCut_26 : decode cX10_readCut 26 = .ok (.iadd, 1) := dOf oX10_readCut_0 15 rfl
theorem dX10_readCut_27 : decode cX10_readCut 27 = .ok (.putfield 288, 3) := dOf oX10_readCut_0 16 rfl
theorem dX10_readCut_30 : decode cX10_readCut 30 = .ok (.aload_n 0, 1) := dOf oX10_readCut_0 17 rfl
theorem dX10_readCut_31 : decode cX10_readCut 31 = .ok (.invokevirtual 306, 3) := dOf oX10_readCut_0 18 rfl
theorem dX10_readCut_34 : decode cX10_readCut 34 = .ok (.istore_n 2, 1) := dOf oX10_readCut_0 19 rfl
theorem dX10_readCut_35 : decode cX10_readCut 35 = .ok (.iload_n 2, 1) := dOf oX10_readCut_0 20 rfl
theorem dX10_readCut_36 : decode cX10_readCut 36 = .ok (.ifCond .ge 5, 3) := dOf oX10_readCut_0 21 rfl
theorem dX10_readCut_39 : decode cX10_readCut 39 = .ok (.iconst (-1), 1) := dOf oX10_readCut_0 22 rfl
theorem dX10_readCut_40 : decode cX10_readCut 40 = .ok (.ireturn, 1) := dOf oX10_readCut_0 23 rfl
theorem dX10_readCut_41 : decode cX10_readCut 41 = .ok (.aload_n 0, 1) := dOf oX10_readCut_0 24 rfl
theorem dX10_readCut_42 : decode cX10_readCut 42 = .ok (.invokevirtual 291, 3) := dOf oX10_readCut_0 25 rfl
theorem dX10_readCut_45 : decode cX10_readCut 45 = .ok (.bipush 117, 2) := dOf oX10_readCut_0 26 rfl
theorem dX10_readCut_47 : decode cX10_readCut 47 = .ok (.if_icmp .ne 7, 3) := dOf oX10_readCut_0 27 rfl
theorem dX10_readCut_50 : decode cX10_readCut 50 = .ok (.iconst 1, 1) := dOf oX10_readCut_0 28 rfl
theorem dX10_readCut_51 : decode cX10_readCut 51 = .ok (.goto 17, 3) := dOf oX10_readCut_0 29 rfl
theorem dX10_readCut_54 : decode cX10_readCut 54 = .ok (.aload_n 0, 1) := dOf oX10_readCut_0 30 rfl
theorem dX10_readCut_55 : decode cX10_readCut 55 = .ok (.invokevirtual 291, 3) := dOf oX10_readCut_0 31 rfl
theorem dX10_readCut_58 : decode cX10_readCut 58 = .ok (.bipush 108, 2) := dOf oX10_readCut_0 32 rfl
theorem dX10_readCut_60 : decode cX10_readCut 60 = .ok (.if_icmp .ne 7, 3) := dOf oX10_readCut_0 33 rfl
theorem dX10_readCut_63 : decode cX10_readCut 63 = .ok (.iconst 2, 1) := dOf oX10_readCut_0 34 rfl
theorem dX10_readCut_64 : decode cX10_readCut 64 = .ok (.goto 4, 3) := dOf oX10_readCut_0 35 rfl
theorem dX10_readCut_67 : decode cX10_readCut 67 = .ok (.iconst 0, 1) := dOf oX10_readCut_0 36 rfl
theorem dX10_readCut_68 : decode cX10_readCut 68 = .ok (.istore_n 3, 1) := dOf oX10_readCut_0 37 rfl
theorem dX10_readCut_69 : decode cX10_readCut 69 = .ok (.aload_n 0, 1) := dOf oX10_readCut_0 38 rfl
theorem dX10_readCut_70 : decode cX10_readCut 70 = .ok (.dup, 1) := dOf oX10_readCut_0 39 rfl
theorem dX10_readCut_71 : decode cX10_readCut 71 = .ok (.getfield 288, 3) := dOf oX10_readCut_0 40 rfl
theorem dX10_readCut_74 : decode cX10_readCut 74 = .ok (.iload_n 3, 1) := dOf oX10_readCut_0 41 rfl
theorem dX10_readCut_75 : decode cX10_readCut 75 = .ok (.ifCond .le 7, 3) := dOf oX10_readCut_0 42 rfl
theorem dX10_readCut_78 : decode cX10_readCut 78 = .ok (.iconst 1, 1) := dOf oX10_readCut_0 43 rfl
theorem dX10_readCut_79 : decode cX10_readCut 79 = .ok (.goto 4, 3) := dOf oX10_readCut_0 44 rfl
theorem dX10_readCut_82 : decode cX10_readCut 82 = .ok (.iconst 0, 1) := dOf oX10_readCut_0 45 rfl
theorem dX10_readCut_83 : decode cX10_readCut 83 = .ok (.iadd, 1) := dOf oX10_readCut_0 46 rfl
theorem dX10_readCut_84 : decode cX10_readCut 84 = .ok (.putfield 288, 3) := dOf oX10_readCut_0 47 rfl
theorem dX10_readCut_87 : decode cX10_readCut 87 = .ok (.bipush 120, 2) := dOf oX10_readCut_0 48 rfl
theorem dX10_readCut_89 : decode cX10_readCut 89 = .ok (.iload_n 1, 1) := dOf oX10_readCut_0 49 rfl
theorem dX10_readCut_90 : decode cX10_readCut 90 = .ok (.imul, 1) := dOf oX10_readCut_0 50 rfl
theorem dX10_readCut_91 : decode cX10_readCut 91 = .ok (.iconst 3, 1) := dOf oX10_readCut_0 51 rfl
theorem dX10_readCut_92 : decode cX10_readCut 92 = .ok (.iload_n 2, 1) := dOf oX10_readCut_0 52 rfl
theorem dX10_readCut_93 : decode cX10_readCut 93 = .ok (.imul, 1) := dOf oX10_readCut_0 53 rfl
theorem dX10_readCut_94 : decode cX10_readCut 94 = .ok (.iadd, 1) := dOf oX10_readCut_0 54 rfl
theorem dX10_readCut_95 : decode cX10_readCut 95 = .ok (.iload_n 3, 1) := dOf oX10_readCut_0 55 rfl
theorem dX10_readCut_96 : decode cX10_readCut 96 = .ok (.iadd, 1) := dOf oX10_readCut_0 56 rfl
theorem dX10_readCut_97 : decode cX10_readCut 97 = .ok (.ireturn, 1) := dOf oX10_readCut_0 57 rfl
def eX10_readProgram_0 : List (Nat × Instr × Nat) := [(0, .aload_n 0, 1), (1, .iconst 0, 1), (2, .putfield 288, 3), (5, .iconst 0, 1), (6, .istore_n 1, 1), (7, .iload_n 1, 1), (8, .iconst 3, 1), (9, .if_icmp .ge 16, 3), (12, .aload_n 0, 1), (13, .getfield 68, 3), (16, .iload_n 1, 1), (17, .iconst (-1), 1), (18, .iastore, 1), (19, .iinc 1 1, 3), (22, .goto (-15), 3), (25, .iconst 0, 1), (26, .istore_n 1, 1), (27, .iload_n 1, 1), (28, .iconst 3, 1), (29, .if_icmp .ge 96, 3), (32, .aload_n 0, 1), (33, .getfield 68, 3), (36, .iload_n 1, 1), (37, .aload_n 0, 1), (38, .invokevirtual 291, 3), (41, .bipush 34, 2), (43, .if_icmp .ne 10, 3), (46, .aload_n 0, 1), (47, .invokevirtual 309, 3), (50, .goto 7, 3), (53, .aload_n 0, 1), (54, .invokevirtual 312, 3), (57, .iastore, 1), (58, .aload_n 0, 1), (59, .getfield 68, 3), (62, .iload_n 1, 1), (63, .iaload, 1), (64, .ifCond .ge 5, 3), (67, .iconst 0, 1), (68, .ireturn, 1), (69, .aload_n 0, 1), (70, .invokevirtual 291, 3), (73, .istore_n 2, 1), (74, .iload_n 2, 1), (75, .ifCond .ge 5, 3), (78, .iconst 1, 1), (79, .ireturn, 1), (80, .iload_n 2, 1), (81, .bipush 43, 2), (83, .if_icmp .ne 24, 3), (86, .iload_n 1, 1), (87, .iconst 2, 1), (88, .if_icmp .eq 19, 3), (91, .iload_n 1, 1), (92, .iconst 1, 1), (93, .if_icmp .ne 16, 3), (96, .aload_n 0, 1), (97, .getfield 68, 3), (100, .iload_n 1, 1), (101, .iaload, 1)]
theorem oX10_readProgram_0 : okC cX10_readProgram eX10_readProgram_0 = true := by decide +kernel
theorem dX10_readProgram_0 : decode cX10_readProgram 0 = .ok (.aload_n 0, 1) := dOf oX10_readProgram_0 0 rfl
theorem dX10_readProgram_1 : decode cX10_readProgram 1 = .ok (.iconst 0, 1) := dOf oX10_readProgram_0 1 rfl
theorem dX10_readProgram_2 : decode cX10_readProgram 2 = .ok (.putfield 288, 3) := dOf oX10_readProgram_0 2 rfl
theorem dX10_readProgram_5 : decode cX10_readProgram 5 = .ok (.iconst 0, 1) := dOf oX10_readProgram_0 3 rfl
theorem dX10_readProgram_6 : decode cX10_readProgram 6 = .ok (.istore_n 1, 1) := dOf oX10_readProgram_0 4 rfl
theorem dX10_readProgram_7 : decode cX10_readProgram 7 = .ok (.iload_n 1, 1) := dOf oX10_readProgram_0 5 rfl
theorem dX10_readProgram_8 : decode cX10_readProgram 8 = .ok (.iconst 3, 1) := dOf oX10_readProgram_0 6 rfl
theorem dX10_readProgram_9 : decode cX10_readProgram 9 = .ok (.if_icmp .ge 16, 3) := dOf oX10_readProgram_0 7 rfl
theorem dX10_readProgram_12 : decode cX10_readProgram 12 = .ok (.aload_n 0, 1) := dOf oX10_readProgram_0 8 rfl
theorem dX10_readProgram_13 : decode cX10_readProgram 13 = .ok (.getfield 68, 3) := dOf oX10_readProgram_0 9 rfl
theorem dX10_readProgram_16 : decode cX10_readProgram 16 = .ok (.iload_n 1, 1) := dOf oX10_readProgram_0 10 rfl
theorem dX10_readProgram_17 : decode cX10_readProgram 17 = .ok (.iconst (-1), 1) := dOf oX10_readProgram_0 11 rfl
theorem dX10_readProgram_18 : decode cX10_readProgram 18 = .ok (.iastore, 1) := dOf oX10_readProgram_0 12 rfl
theorem dX10_readProgram_19 : decode cX10_readProgram 19 = .ok (.iinc 1 1, 3) := dOf oX10_readProgram_0 13 rfl
theorem dX10_readProgram_22 : decode cX10_readProgram 22 = .ok (.goto (-15), 3) := dOf oX10_readProgram_0 14 rfl
theorem dX10_readProgram_25 : decode cX10_readProgram 25 = .ok (.iconst 0, 1) := dOf oX10_readProgram_0 15 rfl
theorem dX10_readProgram_26 : decode cX10_readProgram 26 = .ok (.istore_n 1, 1) := dOf oX10_readProgram_0 16 rfl
theorem dX10_readProgram_27 : decode cX10_readProgram 27 = .ok (.iload_n 1, 1) := dOf oX10_readProgram_0 17 rfl
theorem dX10_readProgram_28 : decode cX10_readProgram 28 = .ok (.iconst 3, 1) := dOf oX10_readProgram_0 18 rfl
theorem dX10_readProgram_29 : decode cX10_readProgram 29 = .ok (.if_icmp .ge 96, 3) := dOf oX10_readProgram_0 19 rfl
theorem dX10_readProgram_32 : decode cX10_readProgram 32 = .ok (.aload_n 0, 1) := dOf oX10_readProgram_0 20 rfl
theorem dX10_readProgram_33 : decode cX10_readProgram 33 = .ok (.getfield 68, 3) := dOf oX10_readProgram_0 21 rfl
theorem dX10_readProgram_36 : decode cX10_readProgram 36 = .ok (.iload_n 1, 1) := dOf oX10_readProgram_0 22 rfl
theorem dX10_readProgram_37 : decode cX10_readProgram 37 = .ok (.aload_n 0, 1) := dOf oX10_readProgram_0 23 rfl
theorem dX10_readProgram_38 : decode cX10_readProgram 38 = .ok (.invokevirtual 291, 3) := dOf oX10_readProgram_0 24 rfl
theorem dX10_readProgram_41 : decode cX10_readProgram 41 = .ok (.bipush 34, 2) := dOf oX10_readProgram_0 25 rfl
theorem dX10_readProgram_43 : decode cX10_readProgram 43 = .ok (.if_icmp .ne 10, 3) := dOf oX10_readProgram_0 26 rfl
theorem dX10_readProgram_46 : decode cX10_readProgram 46 = .ok (.aload_n 0, 1) := dOf oX10_readProgram_0 27 rfl
theorem dX10_readProgram_47 : decode cX10_readProgram 47 = .ok (.invokevirtual 309, 3) := dOf oX10_readProgram_0 28 rfl
theorem dX10_readProgram_50 : decode cX10_readProgram 50 = .ok (.goto 7, 3) := dOf oX10_readProgram_0 29 rfl
theorem dX10_readProgram_53 : decode cX10_readProgram 53 = .ok (.aload_n 0, 1) := dOf oX10_readProgram_0 30 rfl
theorem dX10_readProgram_54 : decode cX10_readProgram 54 = .ok (.invokevirtual 312, 3) := dOf oX10_readProgram_0 31 rfl
theorem dX10_readProgram_57 : decode cX10_readProgram 57 = .ok (.iastore, 1) := dOf oX10_readProgram_0 32 rfl
theorem dX10_readProgram_58 : decode cX10_readProgram 58 = .ok (.aload_n 0, 1) := dOf oX10_readProgram_0 33 rfl
theorem dX10_readProgram_59 : decode cX10_readProgram 59 = .ok (.getfield 68, 3) := dOf oX10_readProgram_0 34 rfl
theorem dX10_readProgram_62 : decode cX10_readProgram 62 = .ok (.iload_n 1, 1) := dOf oX10_readProgram_0 35 rfl
theorem dX10_readProgram_63 : decode cX10_readProgram 63 = .ok (.iaload, 1) := dOf oX10_readProgram_0 36 rfl
theorem dX10_readProgram_64 : decode cX10_readProgram 64 = .ok (.ifCond .ge 5, 3) := dOf oX10_readProgram_0 37 rfl
theorem dX10_readProgram_67 : decode cX10_readProgram 67 = .ok (.iconst 0, 1) := dOf oX10_readProgram_0 38 rfl
theorem dX10_readProgram_68 : decode cX10_readProgram 68 = .ok (.ireturn, 1) := dOf oX10_readProgram_0 39 rfl
theorem dX10_readProgram_69 : decode cX10_readProgram 69 = .ok (.aload_n 0, 1) := dOf oX10_readProgram_0 40 rfl
theorem dX10_readProgram_70 : decode cX10_readProgram 70 = .ok (.invokevirtual 291, 3) := dOf oX10_readProgram_0 41 rfl
theorem dX10_readProgram_73 : decode cX10_readProgram 73 = .ok (.istore_n 2, 1) := dOf oX10_readProgram_0 42 rfl
theorem dX10_readProgram_74 : decode cX10_readProgram 74 = .ok (.iload_n 2, 1) := dOf oX10_readProgram_0 43 rfl
theorem dX10_readProgram_75 : decode cX10_readProgram 75 = .ok (.ifCond .ge 5, 3) := dOf oX10_readProgram_0 44 rfl
theorem dX10_readProgram_78 : decode cX10_readProgram 78 = .ok (.iconst 1, 1) := dOf oX10_readProgram_0 45 rfl
theorem dX10_readProgram_79 : decode cX10_readProgram 79 = .ok (.ireturn, 1) := dOf oX10_readProgram_0 46 rfl
theorem dX10_readProgram_80 : decode cX10_readProgram 80 = .ok (.iload_n 2, 1) := dOf oX10_readProgram_0 47 rfl
theorem dX10_readProgram_81 : decode cX10_readProgram 81 = .ok (.bipush 43, 2) := dOf oX10_readProgram_0 48 rfl
theorem dX10_readProgram_83 : decode cX10_readProgram 83 = .ok (.if_icmp .ne 24, 3) := dOf oX10_readProgram_0 49 rfl
theorem dX10_readProgram_86 : decode cX10_readProgram 86 = .ok (.iload_n 1, 1) := dOf oX10_readProgram_0 50 rfl
theorem dX10_readProgram_87 : decode cX10_readProgram 87 = .ok (.iconst 2, 1) := dOf oX10_readProgram_0 51 rfl
theorem dX10_readProgram_88 : decode cX10_readProgram 88 = .ok (.if_icmp .eq 19, 3) := dOf oX10_readProgram_0 52 rfl
theorem dX10_readProgram_91 : decode cX10_readProgram 91 = .ok (.iload_n 1, 1) := dOf oX10_readProgram_0 53 rfl
theorem dX10_readProgram_92 : decode cX10_readProgram 92 = .ok (.iconst 1, 1) := dOf oX10_readProgram_0 54 rfl
theorem dX10_readProgram_93 : decode cX10_readProgram 93 = .ok (.if_icmp .ne 16, 3) := dOf oX10_readProgram_0 55 rfl
theorem dX10_readProgram_96 : decode cX10_readProgram 96 = .ok (.aload_n 0, 1) := dOf oX10_readProgram_0 56 rfl
theorem dX10_readProgram_97 : decode cX10_readProgram 97 = .ok (.getfield 68, 3) := dOf oX10_readProgram_0 57 rfl
theorem dX10_readProgram_100 : decode cX10_readProgram 100 = .ok (.iload_n 1, 1) := dOf oX10_readProgram_0 58 rfl
theorem dX10_readProgram_101 : decode cX10_readProgram 101 = .ok (.iaload, 1) := dOf oX10_readProgram_0 59 rfl
def eX10_readProgram_1 : List (Nat × Instr × Nat) := [(102, .ldc 149, 2), (104, .if_icmp .ge 5, 3), (107, .iconst 0, 1), (108, .ireturn, 1), (109, .aload_n 0, 1), (110, .dup, 1), (111, .getfield 288, 3), (114, .iconst 1, 1), (115, .iadd, 1), (116, .putfield 288, 3), (119, .iinc 1 1, 3), (122, .goto (-95), 3), (125, .iconst 0, 1), (126, .ireturn, 1)]
theorem oX10_readProgram_1 : okC cX10_readProgram eX10_readProgram_1 = true := by decide +kernel
theorem dX10_readProgram_102 : decode cX10_readProgram 102 = .ok (.ldc 149, 2) := dOf oX10_readProgram_1 0 rfl
theorem dX10_readProgram_104 : decode cX10_readProgram 104 = .ok (.if_icmp .ge 5, 3) := dOf oX10_readProgram_1 1 rfl
theorem dX10_readProgram_107 : decode cX10_readProgram 107 = .ok (.iconst 0, 1) := dOf oX10_readProgram_1 2 rfl
theorem dX10_readProgram_108 : decode cX10_readProgram 108 = .ok (.ireturn, 1) := dOf oX10_readProgram_1 3 rfl
theorem dX10_readProgram_109 : decode cX10_readProgram 109 = .ok (.aload_n 0, 1) := dOf oX10_readProgram_1 4 rfl
theorem dX10_readProgram_110 : decode cX10_readProgram 110 = .ok (.dup, 1) := dOf oX10_readProgram_1 5 rfl
theorem dX10_readProgram_111 : decode cX10_readProgram 111 = .ok (.getfield 288, 3) := dOf oX10_readProgram_1 6 rfl
theorem dX10_readProgram_114 : decode cX10_readProgram 114 = .ok (.iconst 1, 1) := dOf oX10_readProgram_1 7 rfl
theorem dX10_readProgram_115 : decode cX10_readProgram 115 = .ok (.iadd, 1) := dOf oX10_readProgram_1 8 rfl
theorem dX10_readProgram_116 : decode cX10_readProgram 116 = .ok (.putfield 288, 3) := dOf oX10_readProgram_1 9 rfl
theorem dX10_readProgram_119 : decode cX10_readProgram 119 = .ok (.iinc 1 1, 3) := dOf oX10_readProgram_1 10 rfl
theorem dX10_readProgram_122 : decode cX10_readProgram 122 = .ok (.goto (-95), 3) := dOf oX10_readProgram_1 11 rfl
theorem dX10_readProgram_125 : decode cX10_readProgram 125 = .ok (.iconst 0, 1) := dOf oX10_readProgram_1 12 rfl
theorem dX10_readProgram_126 : decode cX10_readProgram 126 = .ok (.ireturn, 1) := dOf oX10_readProgram_1 13 rfl
def eX10_text_0 : List (Nat × Instr × Nat) := [(0, .aload_n 0, 1), (1, .invokevirtual 315, 3), (4, .istore_n 1, 1), (5, .aload_n 0, 1), (6, .getfield 288, 3), (9, .istore_n 2, 1), (10, .aload_n 0, 1), (11, .iconst 0, 1), (12, .putfield 96, 3), (15, .iload_n 1, 1), (16, .ifCond .eq 14, 3), (19, .aload_n 0, 1), (20, .aload_n 0, 1), (21, .getfield 68, 3), (24, .invokevirtual 284, 3), (27, .goto 7, 3), (30, .bipush (-20), 2), (32, .iload_n 2, 1), (33, .isub, 1), (34, .ireturn, 1)]
theorem oX10_text_0 : okC cX10_text eX10_text_0 = true := by decide +kernel
theorem dX10_text_0 : decode cX10_text 0 = .ok (.aload_n 0, 1) := dOf oX10_text_0 0 rfl
theorem dX10_text_1 : decode cX10_text 1 = .ok (.invokevirtual 315, 3) := dOf oX10_text_0 1 rfl
theorem dX10_text_4 : decode cX10_text 4 = .ok (.istore_n 1, 1) := dOf oX10_text_0 2 rfl
theorem dX10_text_5 : decode cX10_text 5 = .ok (.aload_n 0, 1) := dOf oX10_text_0 3 rfl
theorem dX10_text_6 : decode cX10_text 6 = .ok (.getfield 288, 3) := dOf oX10_text_0 4 rfl
theorem dX10_text_9 : decode cX10_text 9 = .ok (.istore_n 2, 1) := dOf oX10_text_0 5 rfl
theorem dX10_text_10 : decode cX10_text 10 = .ok (.aload_n 0, 1) := dOf oX10_text_0 6 rfl
theorem dX10_text_11 : decode cX10_text 11 = .ok (.iconst 0, 1) := dOf oX10_text_0 7 rfl
theorem dX10_text_12 : decode cX10_text 12 = .ok (.putfield 96, 3) := dOf oX10_text_0 8 rfl
theorem dX10_text_15 : decode cX10_text 15 = .ok (.iload_n 1, 1) := dOf oX10_text_0 9 rfl
theorem dX10_text_16 : decode cX10_text 16 = .ok (.ifCond .eq 14, 3) := dOf oX10_text_0 10 rfl
theorem dX10_text_19 : decode cX10_text 19 = .ok (.aload_n 0, 1) := dOf oX10_text_0 11 rfl
theorem dX10_text_20 : decode cX10_text 20 = .ok (.aload_n 0, 1) := dOf oX10_text_0 12 rfl
theorem dX10_text_21 : decode cX10_text 21 = .ok (.getfield 68, 3) := dOf oX10_text_0 13 rfl
theorem dX10_text_24 : decode cX10_text 24 = .ok (.invokevirtual 284, 3) := dOf oX10_text_0 14 rfl
theorem dX10_text_27 : decode cX10_text 27 = .ok (.goto 7, 3) := dOf oX10_text_0 15 rfl
theorem dX10_text_30 : decode cX10_text 30 = .ok (.bipush (-20), 2) := dOf oX10_text_0 16 rfl
theorem dX10_text_32 : decode cX10_text 32 = .ok (.iload_n 2, 1) := dOf oX10_text_0 17 rfl
theorem dX10_text_33 : decode cX10_text 33 = .ok (.isub, 1) := dOf oX10_text_0 18 rfl
theorem dX10_text_34 : decode cX10_text 34 = .ok (.ireturn, 1) := dOf oX10_text_0 19 rfl
def eX10_isKept_0 : List (Nat × Instr × Nat) := [(0, .iload_n 1, 1), (1, .i2l, 1), (2, .lconst 0, 1), (3, .aload_n 0, 1), (4, .getfield 281, 3), (7, .iconst 1, 1), (8, .isub, 1), (9, .i2l, 1), (10, .invokestatic 84, 3), (13, .ireturn, 1)]
theorem oX10_isKept_0 : okC cX10_isKept eX10_isKept_0 = true := by decide +kernel
theorem dX10_isKept_0 : decode cX10_isKept 0 = .ok (.iload_n 1, 1) := dOf oX10_isKept_0 0 rfl
theorem dX10_isKept_1 : decode cX10_isKept 1 = .ok (.i2l, 1) := dOf oX10_isKept_0 1 rfl
theorem dX10_isKept_2 : decode cX10_isKept 2 = .ok (.lconst 0, 1) := dOf oX10_isKept_0 2 rfl
theorem dX10_isKept_3 : decode cX10_isKept 3 = .ok (.aload_n 0, 1) := dOf oX10_isKept_0 3 rfl
theorem dX10_isKept_4 : decode cX10_isKept 4 = .ok (.getfield 281, 3) := dOf oX10_isKept_0 4 rfl
theorem dX10_isKept_7 : decode cX10_isKept 7 = .ok (.iconst 1, 1) := dOf oX10_isKept_0 5 rfl
theorem dX10_isKept_8 : decode cX10_isKept 8 = .ok (.isub, 1) := dOf oX10_isKept_0 6 rfl
theorem dX10_isKept_9 : decode cX10_isKept 9 = .ok (.i2l, 1) := dOf oX10_isKept_0 7 rfl
theorem dX10_isKept_10 : decode cX10_isKept 10 = .ok (.invokestatic 84, 3) := dOf oX10_isKept_0 8 rfl
theorem dX10_isKept_13 : decode cX10_isKept 13 = .ok (.ireturn, 1) := dOf oX10_isKept_0 9 rfl
def eX10_kept_0 : List (Nat × Instr × Nat) := [(0, .aload_n 0, 1), (1, .iload_n 1, 1), (2, .invokevirtual 319, 3), (5, .ifCond .eq 29, 3), (8, .iload_n 2, 1), (9, .i2l, 1), (10, .lconst 0, 1), (11, .ldc2_w 233, 3), (14, .invokestatic 84, 3), (17, .ifCond .eq 17, 3), (20, .aload_n 0, 1), (21, .getfield 65, 3), (24, .iconst 3, 1), (25, .iload_n 1, 1), (26, .imul, 1), (27, .iload_n 2, 1), (28, .invokestatic 239, 3), (31, .goto 4, 3), (34, .iconst (-1), 1), (35, .ireturn, 1)]
theorem oX10_kept_0 : okC cX10_kept eX10_kept_0 = true := by decide +kernel
theorem dX10_kept_0 : decode cX10_kept 0 = .ok (.aload_n 0, 1) := dOf oX10_kept_0 0 rfl
theorem dX10_kept_1 : decode cX10_kept 1 = .ok (.iload_n 1, 1) := dOf oX10_kept_0 1 rfl
theorem dX10_kept_2 : decode cX10_kept 2 = .ok (.invokevirtual 319, 3) := dOf oX10_kept_0 2 rfl
theorem dX10_kept_5 : decode cX10_kept 5 = .ok (.ifCond .eq 29, 3) := dOf oX10_kept_0 3 rfl
theorem dX10_kept_8 : decode cX10_kept 8 = .ok (.iload_n 2, 1) := dOf oX10_kept_0 4 rfl
theorem dX10_kept_9 : decode cX10_kept 9 = .ok (.i2l, 1) := dOf oX10_kept_0 5 rfl
theorem dX10_kept_10 : decode cX10_kept 10 = .ok (.lconst 0, 1) := dOf oX10_kept_0 6 rfl
theorem dX10_kept_11 : decode cX10_kept 11 = .ok (.ldc2_w 233, 3) := dOf oX10_kept_0 7 rfl
theorem dX10_kept_14 : decode cX10_kept 14 = .ok (.invokestatic 84, 3) := dOf oX10_kept_0 8 rfl
theorem dX10_kept_17 : decode cX10_kept 17 = .ok (.ifCond .eq 17, 3) := dOf oX10_kept_0 9 rfl
theorem dX10_kept_20 : decode cX10_kept 20 = .ok (.aload_n 0, 1) := dOf oX10_kept_0 10 rfl
theorem dX10_kept_21 : decode cX10_kept 21 = .ok (.getfield 65, 3) := dOf oX10_kept_0 11 rfl
theorem dX10_kept_24 : decode cX10_kept 24 = .ok (.iconst 3, 1) := dOf oX10_kept_0 12 rfl
theorem dX10_kept_25 : decode cX10_kept 25 = .ok (.iload_n 1, 1) := dOf oX10_kept_0 13 rfl
theorem dX10_kept_26 : decode cX10_kept 26 = .ok (.imul, 1) := dOf oX10_kept_0 14 rfl
theorem dX10_kept_27 : decode cX10_kept 27 = .ok (.iload_n 2, 1) := dOf oX10_kept_0 15 rfl
theorem dX10_kept_28 : decode cX10_kept 28 = .ok (.invokestatic 239, 3) := dOf oX10_kept_0 16 rfl
theorem dX10_kept_31 : decode cX10_kept 31 = .ok (.goto 4, 3) := dOf oX10_kept_0 17 rfl
theorem dX10_kept_34 : decode cX10_kept 34 = .ok (.iconst (-1), 1) := dOf oX10_kept_0 18 rfl
theorem dX10_kept_35 : decode cX10_kept 35 = .ok (.ireturn, 1) := dOf oX10_kept_0 19 rfl
def eX10_run_0 : List (Nat × Instr × Nat) := [(0, .aload_n 0, 1), (1, .iload_n 1, 1), (2, .invokevirtual 319, 3), (5, .ifCond .eq 16, 3), (8, .aload_n 0, 1), (9, .iload_n 2, 1), (10, .invokevirtual 105, 3), (13, .ifCond .eq 8, 3), (16, .iload_n 3, 1), (17, .iconst (-1), 1), (18, .if_icmp .ge 5, 3), (21, .iconst (-1), 1), (22, .ireturn, 1), (23, .aload_n 0, 1), (24, .aload_n 0, 1), (25, .getfield 65, 3), (28, .iconst 3, 1), (29, .iload_n 1, 1), (30, .imul, 1), (31, .iload_n 2, 1), (32, .invokevirtual 243, 3), (35, .ifCond .eq 11, 3), (38, .aload_n 0, 1), (39, .iload_n 3, 1), (40, .invokevirtual 161, 3), (43, .goto 5, 3), (46, .bipush (-4), 2), (48, .ireturn, 1)]
theorem oX10_run_0 : okC cX10_run eX10_run_0 = true := by decide +kernel
theorem dX10_run_0 : decode cX10_run 0 = .ok (.aload_n 0, 1) := dOf oX10_run_0 0 rfl
theorem dX10_run_1 : decode cX10_run 1 = .ok (.iload_n 1, 1) := dOf oX10_run_0 1 rfl
theorem dX10_run_2 : decode cX10_run 2 = .ok (.invokevirtual 319, 3) := dOf oX10_run_0 2 rfl
theorem dX10_run_5 : decode cX10_run 5 = .ok (.ifCond .eq 16, 3) := dOf oX10_run_0 3 rfl
theorem dX10_run_8 : decode cX10_run 8 = .ok (.aload_n 0, 1) := dOf oX10_run_0 4 rfl
theorem dX10_run_9 : decode cX10_run 9 = .ok (.iload_n 2, 1) := dOf oX10_run_0 5 rfl
theorem dX10_run_10 : decode cX10_run 10 = .ok (.invokevirtual 105, 3) := dOf oX10_run_0 6 rfl
theorem dX10_run_13 : decode cX10_run 13 = .ok (.ifCond .eq 8, 3) := dOf oX10_run_0 7 rfl
theorem dX10_run_16 : decode cX10_run 16 = .ok (.iload_n 3, 1) := dOf oX10_run_0 8 rfl
theorem dX10_run_17 : decode cX10_run 17 = .ok (.iconst (-1), 1) := dOf oX10_run_0 9 rfl
theorem dX10_run_18 : decode cX10_run 18 = .ok (.if_icmp .ge 5, 3) := dOf oX10_run_0 10 rfl
theorem dX10_run_21 : decode cX10_run 21 = .ok (.iconst (-1), 1) := dOf oX10_run_0 11 rfl
theorem dX10_run_22 : decode cX10_run 22 = .ok (.ireturn, 1) := dOf oX10_run_0 12 rfl
theorem dX10_run_23 : decode cX10_run 23 = .ok (.aload_n 0, 1) := dOf oX10_run_0 13 rfl
theorem dX10_run_24 : decode cX10_run 24 = .ok (.aload_n 0, 1) := dOf oX10_run_0 14 rfl
theorem dX10_run_25 : decode cX10_run 25 = .ok (.getfield 65, 3) := dOf oX10_run_0 15 rfl
theorem dX10_run_28 : decode cX10_run 28 = .ok (.iconst 3, 1) := dOf oX10_run_0 16 rfl
theorem dX10_run_29 : decode cX10_run 29 = .ok (.iload_n 1, 1) := dOf oX10_run_0 17 rfl
theorem dX10_run_30 : decode cX10_run 30 = .ok (.imul, 1) := dOf oX10_run_0 18 rfl
theorem dX10_run_31 : decode cX10_run 31 = .ok (.iload_n 2, 1) := dOf oX10_run_0 19 rfl
theorem dX10_run_32 : decode cX10_run 32 = .ok (.invokevirtual 243, 3) := dOf oX10_run_0 20 rfl
theorem dX10_run_35 : decode cX10_run 35 = .ok (.ifCond .eq 11, 3) := dOf oX10_run_0 21 rfl
theorem dX10_run_38 : decode cX10_run 38 = .ok (.aload_n 0, 1) := dOf oX10_run_0 22 rfl
theorem dX10_run_39 : decode cX10_run 39 = .ok (.iload_n 3, 1) := dOf oX10_run_0 23 rfl
theorem dX10_run_40 : decode cX10_run 40 = .ok (.invokevirtual 161, 3) := dOf oX10_run_0 24 rfl
theorem dX10_run_43 : decode cX10_run 43 = .ok (.goto 5, 3) := dOf oX10_run_0 25 rfl
theorem dX10_run_46 : decode cX10_run 46 = .ok (.bipush (-4), 2) := dOf oX10_run_0 26 rfl
theorem dX10_run_48 : decode cX10_run 48 = .ok (.ireturn, 1) := dOf oX10_run_0 27 rfl
def eX10_count_0 : List (Nat × Instr × Nat) := [(0, .iload_n 1, 1), (1, .i2l, 1), (2, .lconst 0, 1), (3, .ldc2_w 233, 3), (6, .invokestatic 84, 3), (9, .ifCond .ne 5, 3), (12, .iconst (-1), 1), (13, .ireturn, 1), (14, .iload_n 1, 1), (15, .ifCond .ne 10, 3), (18, .aload_n 0, 1), (19, .getfield 80, 3), (22, .goto 20, 3), (25, .iload_n 1, 1), (26, .iconst 4, 1), (27, .if_icmp .ne 10, 3), (30, .aload_n 0, 1), (31, .getfield 281, 3), (34, .goto 8, 3), (37, .aload_n 0, 1), (38, .iload_n 1, 1), (39, .invokevirtual 169, 3), (42, .ireturn, 1)]
theorem oX10_count_0 : okC cX10_count eX10_count_0 = true := by decide +kernel
theorem dX10_count_0 : decode cX10_count 0 = .ok (.iload_n 1, 1) := dOf oX10_count_0 0 rfl
theorem dX10_count_1 : decode cX10_count 1 = .ok (.i2l, 1) := dOf oX10_count_0 1 rfl
theorem dX10_count_2 : decode cX10_count 2 = .ok (.lconst 0, 1) := dOf oX10_count_0 2 rfl
theorem dX10_count_3 : decode cX10_count 3 = .ok (.ldc2_w 233, 3) := dOf oX10_count_0 3 rfl
theorem dX10_count_6 : decode cX10_count 6 = .ok (.invokestatic 84, 3) := dOf oX10_count_0 4 rfl
theorem dX10_count_9 : decode cX10_count 9 = .ok (.ifCond .ne 5, 3) := dOf oX10_count_0 5 rfl
theorem dX10_count_12 : decode cX10_count 12 = .ok (.iconst (-1), 1) := dOf oX10_count_0 6 rfl
theorem dX10_count_13 : decode cX10_count 13 = .ok (.ireturn, 1) := dOf oX10_count_0 7 rfl
theorem dX10_count_14 : decode cX10_count 14 = .ok (.iload_n 1, 1) := dOf oX10_count_0 8 rfl
theorem dX10_count_15 : decode cX10_count 15 = .ok (.ifCond .ne 10, 3) := dOf oX10_count_0 9 rfl
theorem dX10_count_18 : decode cX10_count 18 = .ok (.aload_n 0, 1) := dOf oX10_count_0 10 rfl
theorem dX10_count_19 : decode cX10_count 19 = .ok (.getfield 80, 3) := dOf oX10_count_0 11 rfl
theorem dX10_count_22 : decode cX10_count 22 = .ok (.goto 20, 3) := dOf oX10_count_0 12 rfl
theorem dX10_count_25 : decode cX10_count 25 = .ok (.iload_n 1, 1) := dOf oX10_count_0 13 rfl
theorem dX10_count_26 : decode cX10_count 26 = .ok (.iconst 4, 1) := dOf oX10_count_0 14 rfl
theorem dX10_count_27 : decode cX10_count 27 = .ok (.if_icmp .ne 10, 3) := dOf oX10_count_0 15 rfl
theorem dX10_count_30 : decode cX10_count 30 = .ok (.aload_n 0, 1) := dOf oX10_count_0 16 rfl
theorem dX10_count_31 : decode cX10_count 31 = .ok (.getfield 281, 3) := dOf oX10_count_0 17 rfl
theorem dX10_count_34 : decode cX10_count 34 = .ok (.goto 8, 3) := dOf oX10_count_0 18 rfl
theorem dX10_count_37 : decode cX10_count 37 = .ok (.aload_n 0, 1) := dOf oX10_count_0 19 rfl
theorem dX10_count_38 : decode cX10_count 38 = .ok (.iload_n 1, 1) := dOf oX10_count_0 20 rfl
theorem dX10_count_39 : decode cX10_count 39 = .ok (.invokevirtual 169, 3) := dOf oX10_count_0 21 rfl
theorem dX10_count_42 : decode cX10_count 42 = .ok (.ireturn, 1) := dOf oX10_count_0 22 rfl
def eX10_isSheet_0 : List (Nat × Instr × Nat) := [(0, .iload_n 0, 1), (1, .i2l, 1), (2, .lconst 0, 1), (3, .ldc2_w 201, 3), (6, .invokestatic 84, 3), (9, .ifCond .eq 19, 3), (12, .iload_n 1, 1), (13, .i2l, 1), (14, .lconst 0, 1), (15, .ldc2_w 322, 3), (18, .invokestatic 84, 3), (21, .ifCond .eq 7, 3), (24, .iconst 1, 1), (25, .goto 4, 3), (28, .iconst 0, 1), (29, .ireturn, 1)]
theorem oX10_isSheet_0 : okC cX10_isSheet eX10_isSheet_0 = true := by decide +kernel
theorem dX10_isSheet_0 : decode cX10_isSheet 0 = .ok (.iload_n 0, 1) := dOf oX10_isSheet_0 0 rfl
theorem dX10_isSheet_1 : decode cX10_isSheet 1 = .ok (.i2l, 1) := dOf oX10_isSheet_0 1 rfl
theorem dX10_isSheet_2 : decode cX10_isSheet 2 = .ok (.lconst 0, 1) := dOf oX10_isSheet_0 2 rfl
theorem dX10_isSheet_3 : decode cX10_isSheet 3 = .ok (.ldc2_w 201, 3) := dOf oX10_isSheet_0 3 rfl
theorem dX10_isSheet_6 : decode cX10_isSheet 6 = .ok (.invokestatic 84, 3) := dOf oX10_isSheet_0 4 rfl
theorem dX10_isSheet_9 : decode cX10_isSheet 9 = .ok (.ifCond .eq 19, 3) := dOf oX10_isSheet_0 5 rfl
theorem dX10_isSheet_12 : decode cX10_isSheet 12 = .ok (.iload_n 1, 1) := dOf oX10_isSheet_0 6 rfl
theorem dX10_isSheet_13 : decode cX10_isSheet 13 = .ok (.i2l, 1) := dOf oX10_isSheet_0 7 rfl
theorem dX10_isSheet_14 : decode cX10_isSheet 14 = .ok (.lconst 0, 1) := dOf oX10_isSheet_0 8 rfl
theorem dX10_isSheet_15 : decode cX10_isSheet 15 = .ok (.ldc2_w 322, 3) := dOf oX10_isSheet_0 9 rfl
theorem dX10_isSheet_18 : decode cX10_isSheet 18 = .ok (.invokestatic 84, 3) := dOf oX10_isSheet_0 10 rfl
theorem dX10_isSheet_21 : decode cX10_isSheet 21 = .ok (.ifCond .eq 7, 3) := dOf oX10_isSheet_0 11 rfl
theorem dX10_isSheet_24 : decode cX10_isSheet 24 = .ok (.iconst 1, 1) := dOf oX10_isSheet_0 12 rfl
theorem dX10_isSheet_25 : decode cX10_isSheet 25 = .ok (.goto 4, 3) := dOf oX10_isSheet_0 13 rfl
theorem dX10_isSheet_28 : decode cX10_isSheet 28 = .ok (.iconst 0, 1) := dOf oX10_isSheet_0 14 rfl
theorem dX10_isSheet_29 : decode cX10_isSheet 29 = .ok (.ireturn, 1) := dOf oX10_isSheet_0 15 rfl
def eX10_sheet_0 : List (Nat × Instr × Nat) := [(0, .iload_n 1, 1), (1, .iload_n 2, 1), (2, .invokestatic 324, 3), (5, .ifCond .eq 9, 3), (8, .iload_n 3, 1), (9, .bipush 20, 2), (11, .if_icmp .le 5, 3), (14, .iconst (-1), 1), (15, .ireturn, 1), (16, .iload_n 3, 1), (17, .ifCond .ge 6, 3), (20, .bipush (-14), 2), (22, .ireturn, 1), (23, .aload_n 0, 1), (24, .getfield 71, 3), (27, .iload_n 1, 1), (28, .iload_n 2, 1), (29, .iastore, 1), (30, .aload_n 0, 1), (31, .getfield 74, 3), (34, .iload_n 1, 1), (35, .iload_n 3, 1), (36, .iastore, 1), (37, .iconst 0, 1), (38, .istore 4, 2), (40, .iload 4, 2), (42, .bipush 20, 2), (44, .if_icmp .ge 22, 3), (47, .aload_n 0, 1), (48, .getfield 77, 3), (51, .bipush 20, 2), (53, .iload_n 1, 1), (54, .imul, 1), (55, .iload 4, 2), (57, .iadd, 1), (58, .iconst 0, 1), (59, .iastore, 1), (60, .iinc 4 1, 3), (63, .goto (-23), 3), (66, .iload_n 3, 1), (67, .ireturn, 1)]
theorem oX10_sheet_0 : okC cX10_sheet eX10_sheet_0 = true := by decide +kernel
theorem dX10_sheet_0 : decode cX10_sheet 0 = .ok (.iload_n 1, 1) := dOf oX10_sheet_0 0 rfl
theorem dX10_sheet_1 : decode cX10_sheet 1 = .ok (.iload_n 2, 1) := dOf oX10_sheet_0 1 rfl
theorem dX10_sheet_2 : decode cX10_sheet 2 = .ok (.invokestatic 324, 3) := dOf oX10_sheet_0 2 rfl
theorem dX10_sheet_5 : decode cX10_sheet 5 = .ok (.ifCond .eq 9, 3) := dOf oX10_sheet_0 3 rfl
theorem dX10_sheet_8 : decode cX10_sheet 8 = .ok (.iload_n 3, 1) := dOf oX10_sheet_0 4 rfl
theorem dX10_sheet_9 : decode cX10_sheet 9 = .ok (.bipush 20, 2) := dOf oX10_sheet_0 5 rfl
theorem dX10_sheet_11 : decode cX10_sheet 11 = .ok (.if_icmp .le 5, 3) := dOf oX10_sheet_0 6 rfl
theorem dX10_sheet_14 : decode cX10_sheet 14 = .ok (.iconst (-1), 1) := dOf oX10_sheet_0 7 rfl
theorem dX10_sheet_15 : decode cX10_sheet 15 = .ok (.ireturn, 1) := dOf oX10_sheet_0 8 rfl
theorem dX10_sheet_16 : decode cX10_sheet 16 = .ok (.iload_n 3, 1) := dOf oX10_sheet_0 9 rfl
theorem dX10_sheet_17 : decode cX10_sheet 17 = .ok (.ifCond .ge 6, 3) := dOf oX10_sheet_0 10 rfl
theorem dX10_sheet_20 : decode cX10_sheet 20 = .ok (.bipush (-14), 2) := dOf oX10_sheet_0 11 rfl
theorem dX10_sheet_22 : decode cX10_sheet 22 = .ok (.ireturn, 1) := dOf oX10_sheet_0 12 rfl
theorem dX10_sheet_23 : decode cX10_sheet 23 = .ok (.aload_n 0, 1) := dOf oX10_sheet_0 13 rfl
theorem dX10_sheet_24 : decode cX10_sheet 24 = .ok (.getfield 71, 3) := dOf oX10_sheet_0 14 rfl
theorem dX10_sheet_27 : decode cX10_sheet 27 = .ok (.iload_n 1, 1) := dOf oX10_sheet_0 15 rfl
theorem dX10_sheet_28 : decode cX10_sheet 28 = .ok (.iload_n 2, 1) := dOf oX10_sheet_0 16 rfl
theorem dX10_sheet_29 : decode cX10_sheet 29 = .ok (.iastore, 1) := dOf oX10_sheet_0 17 rfl
theorem dX10_sheet_30 : decode cX10_sheet 30 = .ok (.aload_n 0, 1) := dOf oX10_sheet_0 18 rfl
theorem dX10_sheet_31 : decode cX10_sheet 31 = .ok (.getfield 74, 3) := dOf oX10_sheet_0 19 rfl
theorem dX10_sheet_34 : decode cX10_sheet 34 = .ok (.iload_n 1, 1) := dOf oX10_sheet_0 20 rfl
theorem dX10_sheet_35 : decode cX10_sheet 35 = .ok (.iload_n 3, 1) := dOf oX10_sheet_0 21 rfl
theorem dX10_sheet_36 : decode cX10_sheet 36 = .ok (.iastore, 1) := dOf oX10_sheet_0 22 rfl
theorem dX10_sheet_37 : decode cX10_sheet 37 = .ok (.iconst 0, 1) := dOf oX10_sheet_0 23 rfl
theorem dX10_sheet_38 : decode cX10_sheet 38 = .ok (.istore 4, 2) := dOf oX10_sheet_0 24 rfl
theorem dX10_sheet_40 : decode cX10_sheet 40 = .ok (.iload 4, 2) := dOf oX10_sheet_0 25 rfl
theorem dX10_sheet_42 : decode cX10_sheet 42 = .ok (.bipush 20, 2) := dOf oX10_sheet_0 26 rfl
theorem dX10_sheet_44 : decode cX10_sheet 44 = .ok (.if_icmp .ge 22, 3) := dOf oX10_sheet_0 27 rfl
theorem dX10_sheet_47 : decode cX10_sheet 47 = .ok (.aload_n 0, 1) := dOf oX10_sheet_0 28 rfl
theorem dX10_sheet_48 : decode cX10_sheet 48 = .ok (.getfield 77, 3) := dOf oX10_sheet_0 29 rfl
theorem dX10_sheet_51 : decode cX10_sheet 51 = .ok (.bipush 20, 2) := dOf oX10_sheet_0 30 rfl
theorem dX10_sheet_53 : decode cX10_sheet 53 = .ok (.iload_n 1, 1) := dOf oX10_sheet_0 31 rfl
theorem dX10_sheet_54 : decode cX10_sheet 54 = .ok (.imul, 1) := dOf oX10_sheet_0 32 rfl
theorem dX10_sheet_55 : decode cX10_sheet 55 = .ok (.iload 4, 2) := dOf oX10_sheet_0 33 rfl
theorem dX10_sheet_57 : decode cX10_sheet 57 = .ok (.iadd, 1) := dOf oX10_sheet_0 34 rfl
theorem dX10_sheet_58 : decode cX10_sheet 58 = .ok (.iconst 0, 1) := dOf oX10_sheet_0 35 rfl
theorem dX10_sheet_59 : decode cX10_sheet 59 = .ok (.iastore, 1) := dOf oX10_sheet_0 36 rfl
theorem dX10_sheet_60 : decode cX10_sheet 60 = .ok (.iinc 4 1, 3) := dOf oX10_sheet_0 37 rfl
theorem dX10_sheet_63 : decode cX10_sheet 63 = .ok (.goto (-23), 3) := dOf oX10_sheet_0 38 rfl
theorem dX10_sheet_66 : decode cX10_sheet 66 = .ok (.iload_n 3, 1) := dOf oX10_sheet_0 39 rfl
theorem dX10_sheet_67 : decode cX10_sheet 67 = .ok (.ireturn, 1) := dOf oX10_sheet_0 40 rfl
def eX10_drop_0 : List (Nat × Instr × Nat) := [(0, .iload_n 1, 1), (1, .i2l, 1), (2, .lconst 0, 1), (3, .ldc2_w 201, 3), (6, .invokestatic 84, 3), (9, .ifCond .ne 5, 3), (12, .iconst (-1), 1), (13, .ireturn, 1), (14, .aload_n 0, 1), (15, .getfield 71, 3), (18, .iload_n 1, 1), (19, .iaload, 1), (20, .ifCond .ge 6, 3), (23, .bipush (-11), 2), (25, .ireturn, 1), (26, .aload_n 0, 1), (27, .getfield 71, 3), (30, .iload_n 1, 1), (31, .iconst (-1), 1), (32, .iastore, 1), (33, .aload_n 0, 1), (34, .getfield 74, 3), (37, .iload_n 1, 1), (38, .iaload, 1), (39, .ireturn, 1)]
theorem oX10_drop_0 : okC cX10_drop eX10_drop_0 = true := by decide +kernel
theorem dX10_drop_0 : decode cX10_drop 0 = .ok (.iload_n 1, 1) := dOf oX10_drop_0 0 rfl
theorem dX10_drop_1 : decode cX10_drop 1 = .ok (.i2l, 1) := dOf oX10_drop_0 1 rfl
theorem dX10_drop_2 : decode cX10_drop 2 = .ok (.lconst 0, 1) := dOf oX10_drop_0 2 rfl
theorem dX10_drop_3 : decode cX10_drop 3 = .ok (.ldc2_w 201, 3) := dOf oX10_drop_0 3 rfl
theorem dX10_drop_6 : decode cX10_drop 6 = .ok (.invokestatic 84, 3) := dOf oX10_drop_0 4 rfl
theorem dX10_drop_9 : decode cX10_drop 9 = .ok (.ifCond .ne 5, 3) := dOf oX10_drop_0 5 rfl
theorem dX10_drop_12 : decode cX10_drop 12 = .ok (.iconst (-1), 1) := dOf oX10_drop_0 6 rfl
theorem dX10_drop_13 : decode cX10_drop 13 = .ok (.ireturn, 1) := dOf oX10_drop_0 7 rfl
theorem dX10_drop_14 : decode cX10_drop 14 = .ok (.aload_n 0, 1) := dOf oX10_drop_0 8 rfl
theorem dX10_drop_15 : decode cX10_drop 15 = .ok (.getfield 71, 3) := dOf oX10_drop_0 9 rfl
theorem dX10_drop_18 : decode cX10_drop 18 = .ok (.iload_n 1, 1) := dOf oX10_drop_0 10 rfl
theorem dX10_drop_19 : decode cX10_drop 19 = .ok (.iaload, 1) := dOf oX10_drop_0 11 rfl
theorem dX10_drop_20 : decode cX10_drop 20 = .ok (.ifCond .ge 6, 3) := dOf oX10_drop_0 12 rfl
theorem dX10_drop_23 : decode cX10_drop 23 = .ok (.bipush (-11), 2) := dOf oX10_drop_0 13 rfl
theorem dX10_drop_25 : decode cX10_drop 25 = .ok (.ireturn, 1) := dOf oX10_drop_0 14 rfl
theorem dX10_drop_26 : decode cX10_drop 26 = .ok (.aload_n 0, 1) := dOf oX10_drop_0 15 rfl
theorem dX10_drop_27 : decode cX10_drop 27 = .ok (.getfield 71, 3) := dOf oX10_drop_0 16 rfl
theorem dX10_drop_30 : decode cX10_drop 30 = .ok (.iload_n 1, 1) := dOf oX10_drop_0 17 rfl
theorem dX10_drop_31 : decode cX10_drop 31 = .ok (.iconst (-1), 1) := dOf oX10_drop_0 18 rfl
theorem dX10_drop_32 : decode cX10_drop 32 = .ok (.iastore, 1) := dOf oX10_drop_0 19 rfl
theorem dX10_drop_33 : decode cX10_drop 33 = .ok (.aload_n 0, 1) := dOf oX10_drop_0 20 rfl
theorem dX10_drop_34 : decode cX10_drop 34 = .ok (.getfield 74, 3) := dOf oX10_drop_0 21 rfl
theorem dX10_drop_37 : decode cX10_drop 37 = .ok (.iload_n 1, 1) := dOf oX10_drop_0 22 rfl
theorem dX10_drop_38 : decode cX10_drop 38 = .ok (.iaload, 1) := dOf oX10_drop_0 23 rfl
theorem dX10_drop_39 : decode cX10_drop 39 = .ok (.ireturn, 1) := dOf oX10_drop_0 24 rfl
def eX10_lacksRow_0 : List (Nat × Instr × Nat) := [(0, .aload_n 0, 1), (1, .getfield 71, 3), (4, .iload_n 1, 1), (5, .iaload, 1), (6, .iload_n 2, 1), (7, .if_icmp .ne 7, 3), (10, .iconst 0, 1), (11, .goto 19, 3), (14, .aload_n 0, 1), (15, .getfield 71, 3), (18, .iload_n 1, 1), (19, .iaload, 1), (20, .ifCond .ge 8, 3), (23, .bipush (-11), 2), (25, .goto 5, 3), (28, .bipush (-12), 2), (30, .ireturn, 1)]
theorem oX10_lacksRow_0 : okC cX10_lacksRow eX10_lacksRow_0 = true := by decide +kernel
theorem dX10_lacksRow_0 : decode cX10_lacksRow 0 = .ok (.aload_n 0, 1) := dOf oX10_lacksRow_0 0 rfl
theorem dX10_lacksRow_1 : decode cX10_lacksRow 1 = .ok (.getfield 71, 3) := dOf oX10_lacksRow_0 1 rfl
theorem dX10_lacksRow_4 : decode cX10_lacksRow 4 = .ok (.iload_n 1, 1) := dOf oX10_lacksRow_0 2 rfl
theorem dX10_lacksRow_5 : decode cX10_lacksRow 5 = .ok (.iaload, 1) := dOf oX10_lacksRow_0 3 rfl
theorem dX10_lacksRow_6 : decode cX10_lacksRow 6 = .ok (.iload_n 2, 1) := dOf oX10_lacksRow_0 4 rfl
theorem dX10_lacksRow_7 : decode cX10_lacksRow 7 = .ok (.if_icmp .ne 7, 3) := dOf oX10_lacksRow_0 5 rfl
theorem dX10_lacksRow_10 : decode cX10_lacksRow 10 = .ok (.iconst 0, 1) := dOf oX10_lacksRow_0 6 rfl
theorem dX10_lacksRow_11 : decode cX10_lacksRow 11 = .ok (.goto 19, 3) := dOf oX10_lacksRow_0 7 rfl
theorem dX10_lacksRow_14 : decode cX10_lacksRow 14 = .ok (.aload_n 0, 1) := dOf oX10_lacksRow_0 8 rfl
theorem dX10_lacksRow_15 : decode cX10_lacksRow 15 = .ok (.getfield 71, 3) := dOf oX10_lacksRow_0 9 rfl
theorem dX10_lacksRow_18 : decode cX10_lacksRow 18 = .ok (.iload_n 1, 1) := dOf oX10_lacksRow_0 10 rfl
theorem dX10_lacksRow_19 : decode cX10_lacksRow 19 = .ok (.iaload, 1) := dOf oX10_lacksRow_0 11 rfl
theorem dX10_lacksRow_20 : decode cX10_lacksRow 20 = .ok (.ifCond .ge 8, 3) := dOf oX10_lacksRow_0 12 rfl
theorem dX10_lacksRow_23 : decode cX10_lacksRow 23 = .ok (.bipush (-11), 2) := dOf oX10_lacksRow_0 13 rfl
theorem dX10_lacksRow_25 : decode cX10_lacksRow 25 = .ok (.goto 5, 3) := dOf oX10_lacksRow_0 14 rfl
theorem dX10_lacksRow_28 : decode cX10_lacksRow 28 = .ok (.bipush (-12), 2) := dOf oX10_lacksRow_0 15 rfl
theorem dX10_lacksRow_30 : decode cX10_lacksRow 30 = .ok (.ireturn, 1) := dOf oX10_lacksRow_0 16 rfl
def eX10_item_0 : List (Nat × Instr × Nat) := [(0, .iload_n 1, 1), (1, .iload_n 2, 1), (2, .invokestatic 324, 3), (5, .ifCond .ne 5, 3), (8, .iconst (-1), 1), (9, .ireturn, 1), (10, .aload_n 0, 1), (11, .iload_n 1, 1), (12, .iload_n 2, 1), (13, .invokevirtual 327, 3), (16, .istore 5, 2), (18, .iload 5, 2), (20, .ifCond .ge 6, 3), (23, .iload 5, 2), (25, .ireturn, 1), (26, .iload_n 3, 1), (27, .i2l, 1), (28, .lconst 0, 1), (29, .aload_n 0, 1), (30, .getfield 74, 3), (33, .iload_n 1, 1), (34, .iaload, 1), (35, .iconst 1, 1), (36, .isub, 1), (37, .i2l, 1), (38, .invokestatic 84, 3), (41, .ifCond .ne 6, 3), (44, .bipush (-13), 2), (46, .ireturn, 1), (47, .aload_n 0, 1), (48, .getfield 77, 3), (51, .bipush 20, 2), (53, .iload_n 1, 1), (54, .imul, 1), (55, .iload_n 3, 1), (56, .iadd, 1), (57, .iload_n 2, 1), (58, .ifCond .ne 14, 3), (61, .iload 4, 2), (63, .bipush 24, 2), (65, .ishl, 1), (66, .bipush 24, 2), (68, .ishr, 1), (69, .goto 21, 3), (72, .iload_n 2, 1), (73, .iconst 1, 1), (74, .if_icmp .ne 14, 3), (77, .iload 4, 2), (79, .bipush 16, 2), (81, .ishl, 1), (82, .bipush 16, 2), (84, .ishr, 1), (85, .goto 5, 3), (88, .iload 4, 2), (90, .iastore, 1), (91, .iconst 1, 1), (92, .ireturn, 1)]
theorem oX10_item_0 : okC cX10_item eX10_item_0 = true := by decide +kernel
theorem dX10_item_0 : decode cX10_item 0 = .ok (.iload_n 1, 1) := dOf oX10_item_0 0 rfl
theorem dX10_item_1 : decode cX10_item 1 = .ok (.iload_n 2, 1) := dOf oX10_item_0 1 rfl
theorem dX10_item_2 : decode cX10_item 2 = .ok (.invokestatic 324, 3) := dOf oX10_item_0 2 rfl
theorem dX10_item_5 : decode cX10_item 5 = .ok (.ifCond .ne 5, 3) := dOf oX10_item_0 3 rfl
theorem dX10_item_8 : decode cX10_item 8 = .ok (.iconst (-1), 1) := dOf oX10_item_0 4 rfl
theorem dX10_item_9 : decode cX10_item 9 = .ok (.ireturn, 1) := dOf oX10_item_0 5 rfl
theorem dX10_item_10 : decode cX10_item 10 = .ok (.aload_n 0, 1) := dOf oX10_item_0 6 rfl
theorem dX10_item_11 : decode cX10_item 11 = .ok (.iload_n 1, 1) := dOf oX10_item_0 7 rfl
theorem dX10_item_12 : decode cX10_item 12 = .ok (.iload_n 2, 1) := dOf oX10_item_0 8 rfl
theorem dX10_item_13 : decode cX10_item 13 = .ok (.invokevirtual 327, 3) := dOf oX10_item_0 9 rfl
theorem dX10_item_16 : decode cX10_item 16 = .ok (.istore 5, 2) := dOf oX10_item_0 10 rfl
theorem dX10_item_18 : decode cX10_item 18 = .ok (.iload 5, 2) := dOf oX10_item_0 11 rfl
theorem dX10_item_20 : decode cX10_item 20 = .ok (.ifCond .ge 6, 3) := dOf oX10_item_0 12 rfl
theorem dX10_item_23 : decode cX10_item 23 = .ok (.iload 5, 2) := dOf oX10_item_0 13 rfl
theorem dX10_item_25 : decode cX10_item 25 = .ok (.ireturn, 1) := dOf oX10_item_0 14 rfl
theorem dX10_item_26 : decode cX10_item 26 = .ok (.iload_n 3, 1) := dOf oX10_item_0 15 rfl
theorem dX10_item_27 : decode cX10_item 27 = .ok (.i2l, 1) := dOf oX10_item_0 16 rfl
theorem dX10_item_28 : decode cX10_item 28 = .ok (.lconst 0, 1) := dOf oX10_item_0 17 rfl
theorem dX10_item_29 : decode cX10_item 29 = .ok (.aload_n 0, 1) := dOf oX10_item_0 18 rfl
theorem dX10_item_30 : decode cX10_item 30 = .ok (.getfield 74, 3) := dOf oX10_item_0 19 rfl
theorem dX10_item_33 : decode cX10_item 33 = .ok (.iload_n 1, 1) := dOf oX10_item_0 20 rfl
theorem dX10_item_34 : decode cX10_item 34 = .ok (.iaload, 1) := dOf oX10_item_0 21 rfl
theorem dX10_item_35 : decode cX10_item 35 = .ok (.iconst 1, 1) := dOf oX10_item_0 22 rfl
theorem dX10_item_36 : decode cX10_item 36 = .ok (.isub, 1) := dOf oX10_item_0 23 rfl
theorem dX10_item_37 : decode cX10_item 37 = .ok (.i2l, 1) := dOf oX10_item_0 24 rfl
theorem dX10_item_38 : decode cX10_item 38 = .ok (.invokestatic 84, 3) := dOf oX10_item_0 25 rfl
theorem dX10_item_41 : decode cX10_item 41 = .ok (.ifCond .ne 6, 3) := dOf oX10_item_0 26 rfl
theorem dX10_item_44 : decode cX10_item 44 = .ok (.bipush (-13), 2) := dOf oX10_item_0 27 rfl
theorem dX10_item_46 : decode cX10_item 46 = .ok (.ireturn, 1) := dOf oX10_item_0 28 rfl
theorem dX10_item_47 : decode cX10_item 47 = .ok (.aload_n 0, 1) := dOf oX10_item_0 29 rfl
theorem dX10_item_48 : decode cX10_item 48 = .ok (.getfield 77, 3) := dOf oX10_item_0 30 rfl
theorem dX10_item_51 : decode cX10_item 51 = .ok (.bipush 20, 2) := dOf oX10_item_0 31 rfl
theorem dX10_item_53 : decode cX10_item 53 = .ok (.iload_n 1, 1) := dOf oX10_item_0 32 rfl
theorem dX10_item_54 : decode cX10_item 54 = .ok (.imul, 1) := dOf oX10_item_0 33 rfl
theorem dX10_item_55 : decode cX10_item 55 = .ok (.iload_n 3, 1) := dOf oX10_item_0 34 rfl
theorem dX10_item_56 : decode cX10_item 56 = .ok (.iadd, 1) := dOf oX10_item_0 35 rfl
theorem dX10_item_57 : decode cX10_item 57 = .ok (.iload_n 2, 1) := dOf oX10_item_0 36 rfl
theorem dX10_item_58 : decode cX10_item 58 = .ok (.ifCond .ne 14, 3) := dOf oX10_item_0 37 rfl
theorem dX10_item_61 : decode cX10_item 61 = .ok (.iload 4, 2) := dOf oX10_item_0 38 rfl
theorem dX10_item_63 : decode cX10_item 63 = .ok (.bipush 24, 2) := dOf oX10_item_0 39 rfl
theorem dX10_item_65 : decode cX10_item 65 = .ok (.ishl, 1) := dOf oX10_item_0 40 rfl
theorem dX10_item_66 : decode cX10_item 66 = .ok (.bipush 24, 2) := dOf oX10_item_0 41 rfl
theorem dX10_item_68 : decode cX10_item 68 = .ok (.ishr, 1) := dOf oX10_item_0 42 rfl
theorem dX10_item_69 : decode cX10_item 69 = .ok (.goto 21, 3) := dOf oX10_item_0 43 rfl
theorem dX10_item_72 : decode cX10_item 72 = .ok (.iload_n 2, 1) := dOf oX10_item_0 44 rfl
theorem dX10_item_73 : decode cX10_item 73 = .ok (.iconst 1, 1) := dOf oX10_item_0 45 rfl
theorem dX10_item_74 : decode cX10_item 74 = .ok (.if_icmp .ne 14, 3) := dOf oX10_item_0 46 rfl
theorem dX10_item_77 : decode cX10_item 77 = .ok (.iload 4, 2) := dOf oX10_item_0 47 rfl
theorem dX10_item_79 : decode cX10_item 79 = .ok (.bipush 16, 2) := dOf oX10_item_0 48 rfl
theorem dX10_item_81 : decode cX10_item 81 = .ok (.ishl, 1) := dOf oX10_item_0 49 rfl
theorem dX10_item_82 : decode cX10_item 82 = .ok (.bipush 16, 2) := dOf oX10_item_0 50 rfl
theorem dX10_item_84 : decode cX10_item 84 = .ok (.ishr, 1) := dOf oX10_item_0 51 rfl
theorem dX10_item_85 : decode cX10_item 85 = .ok (.goto 5, 3) := dOf oX10_item_0 52 rfl
theorem dX10_item_88 : decode cX10_item 88 = .ok (.iload 4, 2) := dOf oX10_item_0 53 rfl
theorem dX10_item_90 : decode cX10_item 90 = .ok (.iastore, 1) := dOf oX10_item_0 54 rfl
theorem dX10_item_91 : decode cX10_item 91 = .ok (.iconst 1, 1) := dOf oX10_item_0 55 rfl
theorem dX10_item_92 : decode cX10_item 92 = .ok (.ireturn, 1) := dOf oX10_item_0 56 rfl
def eX10_line_0 : List (Nat × Instr × Nat) := [(0, .iload_n 1, 1), (1, .iload_n 2, 1), (2, .invokestatic 324, 3), (5, .ifCond .eq 16, 3), (8, .iload 4, 2), (10, .i2l, 1), (11, .lconst 1, 1), (12, .ldc2_w 99, 3), (15, .invokestatic 84, 3), (18, .ifCond .ne 5, 3), (21, .iconst (-1), 1), (22, .ireturn, 1), (23, .aload_n 0, 1), (24, .iload_n 1, 1), (25, .iload_n 2, 1), (26, .invokevirtual 327, 3), (29, .istore 5, 2), (31, .iload 5, 2), (33, .ifCond .ge 6, 3), (36, .iload 5, 2), (38, .ireturn, 1), (39, .iload_n 3, 1), (40, .i2l, 1), (41, .lconst 0, 1), (42, .aload_n 0, 1), (43, .getfield 74, 3), (46, .iload_n 1, 1), (47, .iaload, 1), (48, .iload 4, 2), (50, .isub, 1), (51, .i2l, 1), (52, .invokestatic 84, 3), (55, .ifCond .ne 6, 3), (58, .bipush (-13), 2), (60, .ireturn, 1), (61, .bipush 20, 2), (63, .iload_n 1, 1), (64, .imul, 1), (65, .iload_n 3, 1), (66, .iadd, 1), (67, .istore 6, 2), (69, .iconst 0, 1), (70, .istore 7, 2), (72, .iload 7, 2), (74, .iload 4, 2), (76, .if_icmp .ge 35, 3), (79, .aload_n 0, 1), (80, .getfield 77, 3), (83, .iload 6, 2), (85, .iload 7, 2), (87, .iadd, 1), (88, .iaload, 1), (89, .i2l, 1), (90, .ldc2_w 92, 3), (93, .ldc2_w 94, 3), (96, .invokestatic 84, 3), (99, .ifCond .ne 6, 3), (102, .bipush (-2), 2), (104, .ireturn, 1), (105, .iinc 7 1, 3)]
theorem oX10_line_0 : okC cX10_line eX10_line_0 = true := by decide +kernel
theorem dX10_line_0 : decode cX10_line 0 = .ok (.iload_n 1, 1) := dOf oX10_line_0 0 rfl
theorem dX10_line_1 : decode cX10_line 1 = .ok (.iload_n 2, 1) := dOf oX10_line_0 1 rfl
theorem dX10_line_2 : decode cX10_line 2 = .ok (.invokestatic 324, 3) := dOf oX10_line_0 2 rfl
theorem dX10_line_5 : decode cX10_line 5 = .ok (.ifCond .eq 16, 3) := dOf oX10_line_0 3 rfl
theorem dX10_line_8 : decode cX10_line 8 = .ok (.iload 4, 2) := dOf oX10_line_0 4 rfl
theorem dX10_line_10 : decode cX10_line 10 = .ok (.i2l, 1) := dOf oX10_line_0 5 rfl
theorem dX10_line_11 : decode cX10_line 11 = .ok (.lconst 1, 1) := dOf oX10_line_0 6 rfl
theorem dX10_line_12 : decode cX10_line 12 = .ok (.ldc2_w 99, 3) := dOf oX10_line_0 7 rfl
theorem dX10_line_15 : decode cX10_line 15 = .ok (.invokestatic 84, 3) := dOf oX10_line_0 8 rfl
theorem dX10_line_18 : decode cX10_line 18 = .ok (.ifCond .ne 5, 3) := dOf oX10_line_0 9 rfl
theorem dX10_line_21 : decode cX10_line 21 = .ok (.iconst (-1), 1) := dOf oX10_line_0 10 rfl
theorem dX10_line_22 : decode cX10_line 22 = .ok (.ireturn, 1) := dOf oX10_line_0 11 rfl
theorem dX10_line_23 : decode cX10_line 23 = .ok (.aload_n 0, 1) := dOf oX10_line_0 12 rfl
theorem dX10_line_24 : decode cX10_line 24 = .ok (.iload_n 1, 1) := dOf oX10_line_0 13 rfl
theorem dX10_line_25 : decode cX10_line 25 = .ok (.iload_n 2, 1) := dOf oX10_line_0 14 rfl
theorem dX10_line_26 : decode cX10_line 26 = .ok (.invokevirtual 327, 3) := dOf oX10_line_0 15 rfl
theorem dX10_line_29 : decode cX10_line 29 = .ok (.istore 5, 2) := dOf oX10_line_0 16 rfl
theorem dX10_line_31 : decode cX10_line 31 = .ok (.iload 5, 2) := dOf oX10_line_0 17 rfl
theorem dX10_line_33 : decode cX10_line 33 = .ok (.ifCond .ge 6, 3) := dOf oX10_line_0 18 rfl
theorem dX10_line_36 : decode cX10_line 36 = .ok (.iload 5, 2) := dOf oX10_line_0 19 rfl
theorem dX10_line_38 : decode cX10_line 38 = .ok (.ireturn, 1) := dOf oX10_line_0 20 rfl
theorem dX10_line_39 : decode cX10_line 39 = .ok (.iload_n 3, 1) := dOf oX10_line_0 21 rfl
theorem dX10_line_40 : decode cX10_line 40 = .ok (.i2l, 1) := dOf oX10_line_0 22 rfl
theorem dX10_line_41 : decode cX10_line 41 = .ok (.lconst 0, 1) := dOf oX10_line_0 23 rfl
theorem dX10_line_42 : decode cX10_line 42 = .ok (.aload_n 0, 1) := dOf oX10_line_0 24 rfl
theorem dX10_line_43 : decode cX10_line 43 = .ok (.getfield 74, 3) := dOf oX10_line_0 25 rfl
theorem dX10_line_46 : decode cX10_line 46 = .ok (.iload_n 1, 1) := dOf oX10_line_0 26 rfl
theorem dX10_line_47 : decode cX10_line 47 = .ok (.iaload, 1) := dOf oX10_line_0 27 rfl
theorem dX10_line_48 : decode cX10_line 48 = .ok (.iload 4, 2) := dOf oX10_line_0 28 rfl
theorem dX10_line_50 : decode cX10_line 50 = .ok (.isub, 1) := dOf oX10_line_0 29 rfl
theorem dX10_line_51 : decode cX10_line 51 = .ok (.i2l, 1) := dOf oX10_line_0 30 rfl
theorem dX10_line_52 : decode cX10_line 52 = .ok (.invokestatic 84, 3) := dOf oX10_line_0 31 rfl
theorem dX10_line_55 : decode cX10_line 55 = .ok (.ifCond .ne 6, 3) := dOf oX10_line_0 32 rfl
theorem dX10_line_58 : decode cX10_line 58 = .ok (.bipush (-13), 2) := dOf oX10_line_0 33 rfl
theorem dX10_line_60 : decode cX10_line 60 = .ok (.ireturn, 1) := dOf oX10_line_0 34 rfl
theorem dX10_line_61 : decode cX10_line 61 = .ok (.bipush 20, 2) := dOf oX10_line_0 35 rfl
theorem dX10_line_63 : decode cX10_line 63 = .ok (.iload_n 1, 1) := dOf oX10_line_0 36 rfl
theorem dX10_line_64 : decode cX10_line 64 = .ok (.imul, 1) := dOf oX10_line_0 37 rfl
theorem dX10_line_65 : decode cX10_line 65 = .ok (.iload_n 3, 1) := dOf oX10_line_0 38 rfl
theorem dX10_line_66 : decode cX10_line 66 = .ok (.iadd, 1) := dOf oX10_line_0 39 rfl
theorem dX10_line_67 : decode cX10_line 67 = .ok (.istore 6, 2) := dOf oX10_line_0 40 rfl
theorem dX10_line_69 : decode cX10_line 69 = .ok (.iconst 0, 1) := dOf oX10_line_0 41 rfl
theorem dX10_line_70 : decode cX10_line 70 = .ok (.istore 7, 2) := dOf oX10_line_0 42 rfl
theorem dX10_line_72 : decode cX10_line 72 = .ok (.iload 7, 2) := dOf oX10_line_0 43 rfl
theorem dX10_line_74 : decode cX10_line 74 = .ok (.iload 4, 2) := dOf oX10_line_0 44 rfl
theorem dX10_line_76 : decode cX10_line 76 = .ok (.if_icmp .ge 35, 3) := dOf oX10_line_0 45 rfl
theorem dX10_line_79 : decode cX10_line 79 = .ok (.aload_n 0, 1) := dOf oX10_line_0 46 rfl
theorem dX10_line_80 : decode cX10_line 80 = .ok (.getfield 77, 3) := dOf oX10_line_0 47 rfl
theorem dX10_line_83 : decode cX10_line 83 = .ok (.iload 6, 2) := dOf oX10_line_0 48 rfl
theorem dX10_line_85 : decode cX10_line 85 = .ok (.iload 7, 2) := dOf oX10_line_0 49 rfl
theorem dX10_line_87 : decode cX10_line 87 = .ok (.iadd, 1) := dOf oX10_line_0 50 rfl
theorem dX10_line_88 : decode cX10_line 88 = .ok (.iaload, 1) := dOf oX10_line_0 51 rfl
theorem dX10_line_89 : decode cX10_line 89 = .ok (.i2l, 1) := dOf oX10_line_0 52 rfl
theorem dX10_line_90 : decode cX10_line 90 = .ok (.ldc2_w 92, 3) := dOf oX10_line_0 53 rfl
theorem dX10_line_93 : decode cX10_line 93 = .ok (.ldc2_w 94, 3) := dOf oX10_line_0 54 rfl
theorem dX10_line_96 : decode cX10_line 96 = .ok (.invokestatic 84, 3) := dOf oX10_line_0 55 rfl
theorem dX10_line_99 : decode cX10_line 99 = .ok (.ifCond .ne 6, 3) := dOf oX10_line_0 56 rfl
theorem dX10_line_102 : decode cX10_line 102 = .ok (.bipush (-2), 2) := dOf oX10_line_0 57 rfl
theorem dX10_line_104 : decode cX10_line 104 = .ok (.ireturn, 1) := dOf oX10_line_0 58 rfl
theorem dX10_line_105 : decode cX10_line 105 = .ok (.iinc 7 1, 3) := dOf oX10_line_0 59 rfl
def eX10_line_1 : List (Nat × Instr × Nat) := [(108, .goto (-36), 3), (111, .aload_n 0, 1), (112, .getfield 80, 3), (115, .bipush 12, 2), (117, .if_icmp .ne 6, 3), (120, .bipush (-3), 2), (122, .ireturn, 1), (123, .iconst 0, 1), (124, .istore 7, 2), (126, .iload 7, 2), (128, .iload 4, 2), (130, .if_icmp .ge 34, 3), (133, .aload_n 0, 1), (134, .getfield 7, 3), (137, .bipush 16, 2), (139, .aload_n 0, 1), (140, .getfield 80, 3), (143, .imul, 1), (144, .iload 7, 2), (146, .iadd, 1), (147, .aload_n 0, 1), (148, .getfield 77, 3), (151, .iload 6, 2), (153, .iload 7, 2), (155, .iadd, 1), (156, .iaload, 1), (157, .iastore, 1), (158, .iinc 7 1, 3), (161, .goto (-35), 3), (164, .aload_n 0, 1), (165, .iload 4, 2), (167, .invokevirtual 101, 3), (170, .ireturn, 1)]
theorem oX10_line_1 : okC cX10_line eX10_line_1 = true := by decide +kernel
theorem dX10_line_108 : decode cX10_line 108 = .ok (.goto (-36), 3) := dOf oX10_line_1 0 rfl
theorem dX10_line_111 : decode cX10_line 111 = .ok (.aload_n 0, 1) := dOf oX10_line_1 1 rfl
theorem dX10_line_112 : decode cX10_line 112 = .ok (.getfield 80, 3) := dOf oX10_line_1 2 rfl
theorem dX10_line_115 : decode cX10_line 115 = .ok (.bipush 12, 2) := dOf oX10_line_1 3 rfl
theorem dX10_line_117 : decode cX10_line 117 = .ok (.if_icmp .ne 6, 3) := dOf oX10_line_1 4 rfl
theorem dX10_line_120 : decode cX10_line 120 = .ok (.bipush (-3), 2) := dOf oX10_line_1 5 rfl
theorem dX10_line_122 : decode cX10_line 122 = .ok (.ireturn, 1) := dOf oX10_line_1 6 rfl
theorem dX10_line_123 : decode cX10_line 123 = .ok (.iconst 0, 1) := dOf oX10_line_1 7 rfl
theorem dX10_line_124 : decode cX10_line 124 = .ok (.istore 7, 2) := dOf oX10_line_1 8 rfl
theorem dX10_line_126 : decode cX10_line 126 = .ok (.iload 7, 2) := dOf oX10_line_1 9 rfl
theorem dX10_line_128 : decode cX10_line 128 = .ok (.iload 4, 2) := dOf oX10_line_1 10 rfl
theorem dX10_line_130 : decode cX10_line 130 = .ok (.if_icmp .ge 34, 3) := dOf oX10_line_1 11 rfl
theorem dX10_line_133 : decode cX10_line 133 = .ok (.aload_n 0, 1) := dOf oX10_line_1 12 rfl
theorem dX10_line_134 : decode cX10_line 134 = .ok (.getfield 7, 3) := dOf oX10_line_1 13 rfl
theorem dX10_line_137 : decode cX10_line 137 = .ok (.bipush 16, 2) := dOf oX10_line_1 14 rfl
theorem dX10_line_139 : decode cX10_line 139 = .ok (.aload_n 0, 1) := dOf oX10_line_1 15 rfl
theorem dX10_line_140 : decode cX10_line 140 = .ok (.getfield 80, 3) := dOf oX10_line_1 16 rfl
theorem dX10_line_143 : decode cX10_line 143 = .ok (.imul, 1) := dOf oX10_line_1 17 rfl
theorem dX10_line_144 : decode cX10_line 144 = .ok (.iload 7, 2) := dOf oX10_line_1 18 rfl
theorem dX10_line_146 : decode cX10_line 146 = .ok (.iadd, 1) := dOf oX10_line_1 19 rfl
theorem dX10_line_147 : decode cX10_line 147 = .ok (.aload_n 0, 1) := dOf oX10_line_1 20 rfl
theorem dX10_line_148 : decode cX10_line 148 = .ok (.getfield 77, 3) := dOf oX10_line_1 21 rfl
theorem dX10_line_151 : decode cX10_line 151 = .ok (.iload 6, 2) := dOf oX10_line_1 22 rfl
theorem dX10_line_153 : decode cX10_line 153 = .ok (.iload 7, 2) := dOf oX10_line_1 23 rfl
theorem dX10_line_155 : decode cX10_line 155 = .ok (.iadd, 1) := dOf oX10_line_1 24 rfl
theorem dX10_line_156 : decode cX10_line 156 = .ok (.iaload, 1) := dOf oX10_line_1 25 rfl
theorem dX10_line_157 : decode cX10_line 157 = .ok (.iastore, 1) := dOf oX10_line_1 26 rfl
theorem dX10_line_158 : decode cX10_line 158 = .ok (.iinc 7 1, 3) := dOf oX10_line_1 27 rfl
theorem dX10_line_161 : decode cX10_line 161 = .ok (.goto (-35), 3) := dOf oX10_line_1 28 rfl
theorem dX10_line_164 : decode cX10_line 164 = .ok (.aload_n 0, 1) := dOf oX10_line_1 29 rfl
theorem dX10_line_165 : decode cX10_line 165 = .ok (.iload 4, 2) := dOf oX10_line_1 30 rfl
theorem dX10_line_167 : decode cX10_line 167 = .ok (.invokevirtual 101, 3) := dOf oX10_line_1 31 rfl
theorem dX10_line_170 : decode cX10_line 170 = .ok (.ireturn, 1) := dOf oX10_line_1 32 rfl
def eX10_put_0 : List (Nat × Instr × Nat) := [(0, .aload_n 0, 1), (1, .iload_n 1, 1), (2, .invokevirtual 105, 3), (5, .ifCond .eq 24, 3), (8, .iload_n 2, 1), (9, .i2l, 1), (10, .lconst 0, 1), (11, .ldc2_w 156, 3), (14, .invokestatic 84, 3), (17, .ifCond .eq 12, 3), (20, .iload_n 3, 1), (21, .iload 4, 2), (23, .invokestatic 324, 3), (26, .ifCond .ne 5, 3), (29, .iconst (-1), 1), (30, .ireturn, 1), (31, .aload_n 0, 1), (32, .iload_n 3, 1), (33, .iload 4, 2), (35, .invokevirtual 327, 3), (38, .istore 6, 2), (40, .iload 6, 2), (42, .ifCond .ge 6, 3), (45, .iload 6, 2), (47, .ireturn, 1), (48, .aload_n 0, 1), (49, .iconst 0, 1), (50, .putfield 150, 3), (53, .aload_n 0, 1), (54, .iload_n 1, 1), (55, .iload_n 2, 1), (56, .invokevirtual 158, 3), (59, .ifCond .ne 6, 3), (62, .bipush (-4), 2), (64, .ireturn, 1), (65, .iload 5, 2), (67, .i2l, 1), (68, .lconst 0, 1), (69, .aload_n 0, 1), (70, .getfield 74, 3), (73, .iload_n 3, 1), (74, .iaload, 1), (75, .aload_n 0, 1), (76, .getfield 150, 3), (79, .isub, 1), (80, .i2l, 1), (81, .invokestatic 84, 3), (84, .ifCond .ne 6, 3), (87, .bipush (-13), 2), (89, .ireturn, 1), (90, .iconst 0, 1), (91, .istore 7, 2), (93, .iload 7, 2), (95, .aload_n 0, 1), (96, .getfield 150, 3), (99, .if_icmp .ge 31, 3), (102, .aload_n 0, 1), (103, .getfield 77, 3), (106, .bipush 20, 2), (108, .iload_n 3, 1)]
theorem oX10_put_0 : okC cX10_put eX10_put_0 = true := by decide +kernel
theorem dX10_put_0 : decode cX10_put 0 = .ok (.aload_n 0, 1) := dOf oX10_put_0 0 rfl
theorem dX10_put_1 : decode cX10_put 1 = .ok (.iload_n 1, 1) := dOf oX10_put_0 1 rfl
theorem dX10_put_2 : decode cX10_put 2 = .ok (.invokevirtual 105, 3) := dOf oX10_put_0 2 rfl
theorem dX10_put_5 : decode cX10_put 5 = .ok (.ifCond .eq 24, 3) := dOf oX10_put_0 3 rfl
theorem dX10_put_8 : decode cX10_put 8 = .ok (.iload_n 2, 1) := dOf oX10_put_0 4 rfl
theorem dX10_put_9 : decode cX10_put 9 = .ok (.i2l, 1) := dOf oX10_put_0 5 rfl
theorem dX10_put_10 : decode cX10_put 10 = .ok (.lconst 0, 1) := dOf oX10_put_0 6 rfl
theorem dX10_put_11 : decode cX10_put 11 = .ok (.ldc2_w 156, 3) := dOf oX10_put_0 7 rfl
theorem dX10_put_14 : decode cX10_put 14 = .ok (.invokestatic 84, 3) := dOf oX10_put_0 8 rfl
theorem dX10_put_17 : decode cX10_put 17 = .ok (.ifCond .eq 12, 3) := dOf oX10_put_0 9 rfl
theorem dX10_put_20 : decode cX10_put 20 = .ok (.iload_n 3, 1) := dOf oX10_put_0 10 rfl
theorem dX10_put_21 : decode cX10_put 21 = .ok (.iload 4, 2) := dOf oX10_put_0 11 rfl
theorem dX10_put_23 : decode cX10_put 23 = .ok (.invokestatic 324, 3) := dOf oX10_put_0 12 rfl
theorem dX10_put_26 : decode cX10_put 26 = .ok (.ifCond .ne 5, 3) := dOf oX10_put_0 13 rfl
theorem dX10_put_29 : decode cX10_put 29 = .ok (.iconst (-1), 1) := dOf oX10_put_0 14 rfl
theorem dX10_put_30 : decode cX10_put 30 = .ok (.ireturn, 1) := dOf oX10_put_0 15 rfl
theorem dX10_put_31 : decode cX10_put 31 = .ok (.aload_n 0, 1) := dOf oX10_put_0 16 rfl
theorem dX10_put_32 : decode cX10_put 32 = .ok (.iload_n 3, 1) := dOf oX10_put_0 17 rfl
theorem dX10_put_33 : decode cX10_put 33 = .ok (.iload 4, 2) := dOf oX10_put_0 18 rfl
theorem dX10_put_35 : decode cX10_put 35 = .ok (.invokevirtual 327, 3) := dOf oX10_put_0 19 rfl
theorem dX10_put_38 : decode cX10_put 38 = .ok (.istore 6, 2) := dOf oX10_put_0 20 rfl
theorem dX10_put_40 : decode cX10_put 40 = .ok (.iload 6, 2) := dOf oX10_put_0 21 rfl
theorem dX10_put_42 : decode cX10_put 42 = .ok (.ifCond .ge 6, 3) := dOf oX10_put_0 22 rfl
theorem dX10_put_45 : decode cX10_put 45 = .ok (.iload 6, 2) := dOf oX10_put_0 23 rfl
theorem dX10_put_47 : decode cX10_put 47 = .ok (.ireturn, 1) := dOf oX10_put_0 24 rfl
theorem dX10_put_48 : decode cX10_put 48 = .ok (.aload_n 0, 1) := dOf oX10_put_0 25 rfl
theorem dX10_put_49 : decode cX10_put 49 = .ok (.iconst 0, 1) := dOf oX10_put_0 26 rfl
theorem dX10_put_50 : decode cX10_put 50 = .ok (.putfield 150, 3) := dOf oX10_put_0 27 rfl
theorem dX10_put_53 : decode cX10_put 53 = .ok (.aload_n 0, 1) := dOf oX10_put_0 28 rfl
theorem dX10_put_54 : decode cX10_put 54 = .ok (.iload_n 1, 1) := dOf oX10_put_0 29 rfl
theorem dX10_put_55 : decode cX10_put 55 = .ok (.iload_n 2, 1) := dOf oX10_put_0 30 rfl
theorem dX10_put_56 : decode cX10_put 56 = .ok (.invokevirtual 158, 3) := dOf oX10_put_0 31 rfl
theorem dX10_put_59 : decode cX10_put 59 = .ok (.ifCond .ne 6, 3) := dOf oX10_put_0 32 rfl
theorem dX10_put_62 : decode cX10_put 62 = .ok (.bipush (-4), 2) := dOf oX10_put_0 33 rfl
theorem dX10_put_64 : decode cX10_put 64 = .ok (.ireturn, 1) := dOf oX10_put_0 34 rfl
theorem dX10_put_65 : decode cX10_put 65 = .ok (.iload 5, 2) := dOf oX10_put_0 35 rfl
theorem dX10_put_67 : decode cX10_put 67 = .ok (.i2l, 1) := dOf oX10_put_0 36 rfl
theorem dX10_put_68 : decode cX10_put 68 = .ok (.lconst 0, 1) := dOf oX10_put_0 37 rfl
theorem dX10_put_69 : decode cX10_put 69 = .ok (.aload_n 0, 1) := dOf oX10_put_0 38 rfl
theorem dX10_put_70 : decode cX10_put 70 = .ok (.getfield 74, 3) := dOf oX10_put_0 39 rfl
theorem dX10_put_73 : decode cX10_put 73 = .ok (.iload_n 3, 1) := dOf oX10_put_0 40 rfl
theorem dX10_put_74 : decode cX10_put 74 = .ok (.iaload, 1) := dOf oX10_put_0 41 rfl
theorem dX10_put_75 : decode cX10_put 75 = .ok (.aload_n 0, 1) := dOf oX10_put_0 42 rfl
theorem dX10_put_76 : decode cX10_put 76 = .ok (.getfield 150, 3) := dOf oX10_put_0 43 rfl
theorem dX10_put_79 : decode cX10_put 79 = .ok (.isub, 1) := dOf oX10_put_0 44 rfl
theorem dX10_put_80 : decode cX10_put 80 = .ok (.i2l, 1) := dOf oX10_put_0 45 rfl
theorem dX10_put_81 : decode cX10_put 81 = .ok (.invokestatic 84, 3) := dOf oX10_put_0 46 rfl
theorem dX10_put_84 : decode cX10_put 84 = .ok (.ifCond .ne 6, 3) := dOf oX10_put_0 47 rfl
theorem dX10_put_87 : decode cX10_put 87 = .ok (.bipush (-13), 2) := dOf oX10_put_0 48 rfl
theorem dX10_put_89 : decode cX10_put 89 = .ok (.ireturn, 1) := dOf oX10_put_0 49 rfl
theorem dX10_put_90 : decode cX10_put 90 = .ok (.iconst 0, 1) := dOf oX10_put_0 50 rfl
theorem dX10_put_91 : decode cX10_put 91 = .ok (.istore 7, 2) := dOf oX10_put_0 51 rfl
theorem dX10_put_93 : decode cX10_put 93 = .ok (.iload 7, 2) := dOf oX10_put_0 52 rfl
theorem dX10_put_95 : decode cX10_put 95 = .ok (.aload_n 0, 1) := dOf oX10_put_0 53 rfl
theorem dX10_put_96 : decode cX10_put 96 = .ok (.getfield 150, 3) := dOf oX10_put_0 54 rfl
theorem dX10_put_99 : decode cX10_put 99 = .ok (.if_icmp .ge 31, 3) := dOf oX10_put_0 55 rfl
theorem dX10_put_102 : decode cX10_put 102 = .ok (.aload_n 0, 1) := dOf oX10_put_0 56 rfl
theorem dX10_put_103 : decode cX10_put 103 = .ok (.getfield 77, 3) := dOf oX10_put_0 57 rfl
theorem dX10_put_106 : decode cX10_put 106 = .ok (.bipush 20, 2) := dOf oX10_put_0 58 rfl
theorem dX10_put_108 : decode cX10_put 108 = .ok (.iload_n 3, 1) := dOf oX10_put_0 59 rfl
def eX10_put_1 : List (Nat × Instr × Nat) := [(109, .imul, 1), (110, .iload 5, 2), (112, .iadd, 1), (113, .iload 7, 2), (115, .iadd, 1), (116, .aload_n 0, 1), (117, .getfield 31, 3), (120, .iload 7, 2), (122, .iaload, 1), (123, .iastore, 1), (124, .iinc 7 1, 3), (127, .goto (-34), 3), (130, .aload_n 0, 1), (131, .getfield 150, 3), (134, .ireturn, 1)]
theorem oX10_put_1 : okC cX10_put eX10_put_1 = true := by decide +kernel
theorem dX10_put_109 : decode cX10_put 109 = .ok (.imul, 1) := dOf oX10_put_1 0 rfl
theorem dX10_put_110 : decode cX10_put 110 = .ok (.iload 5, 2) := dOf oX10_put_1 1 rfl
theorem dX10_put_112 : decode cX10_put 112 = .ok (.iadd, 1) := dOf oX10_put_1 2 rfl
theorem dX10_put_113 : decode cX10_put 113 = .ok (.iload 7, 2) := dOf oX10_put_1 3 rfl
theorem dX10_put_115 : decode cX10_put 115 = .ok (.iadd, 1) := dOf oX10_put_1 4 rfl
theorem dX10_put_116 : decode cX10_put 116 = .ok (.aload_n 0, 1) := dOf oX10_put_1 5 rfl
theorem dX10_put_117 : decode cX10_put 117 = .ok (.getfield 31, 3) := dOf oX10_put_1 6 rfl
theorem dX10_put_120 : decode cX10_put 120 = .ok (.iload 7, 2) := dOf oX10_put_1 7 rfl
theorem dX10_put_122 : decode cX10_put 122 = .ok (.iaload, 1) := dOf oX10_put_1 8 rfl
theorem dX10_put_123 : decode cX10_put 123 = .ok (.iastore, 1) := dOf oX10_put_1 9 rfl
theorem dX10_put_124 : decode cX10_put 124 = .ok (.iinc 7 1, 3) := dOf oX10_put_1 10 rfl
theorem dX10_put_127 : decode cX10_put 127 = .ok (.goto (-34), 3) := dOf oX10_put_1 11 rfl
theorem dX10_put_130 : decode cX10_put 130 = .ok (.aload_n 0, 1) := dOf oX10_put_1 12 rfl
theorem dX10_put_131 : decode cX10_put 131 = .ok (.getfield 150, 3) := dOf oX10_put_1 13 rfl
theorem dX10_put_134 : decode cX10_put 134 = .ok (.ireturn, 1) := dOf oX10_put_1 14 rfl
def eJ6_bitCount_0f7a4_0 : List (Nat × Instr × Nat) := [(0, .iload_n 0, 1), (1, .iload_n 0, 1), (2, .iconst 1, 1), (3, .iushr, 1), (4, .ldc_w 265, 3), (7, .iand, 1), (8, .isub, 1), (9, .istore_n 0, 1), (10, .iload_n 0, 1), (11, .ldc_w 266, 3), (14, .iand, 1), (15, .iload_n 0, 1), (16, .iconst 2, 1), (17, .iushr, 1), (18, .ldc_w 266, 3), (21, .iand, 1), (22, .iadd, 1), (23, .istore_n 0, 1), (24, .iload_n 0, 1), (25, .iload_n 0, 1), (26, .iconst 4, 1), (27, .iushr, 1), (28, .iadd, 1), (29, .ldc_w 267, 3), (32, .iand, 1), (33, .istore_n 0, 1), (34, .iload_n 0, 1), (35, .iload_n 0, 1), (36, .bipush 8, 2), (38, .iushr, 1), (39, .iadd, 1), (40, .istore_n 0, 1), (41, .iload_n 0, 1), (42, .iload_n 0, 1), (43, .bipush 16, 2), (45, .iushr, 1), (46, .iadd, 1), (47, .istore_n 0, 1), (48, .iload_n 0, 1), (49, .bipush 63, 2), (51, .iand, 1), (52, .ireturn, 1)]
theorem oJ6_bitCount_0f7a4_0 : okC cJ6_bitCount_0f7a4 eJ6_bitCount_0f7a4_0 = true := by decide +kernel
theorem dJ6_bitCount_0f7a4_0 : decode cJ6_bitCount_0f7a4 0 = .ok (.iload_n 0, 1) := dOf oJ6_bitCount_0f7a4_0 0 rfl
theorem dJ6_bitCount_0f7a4_1 : decode cJ6_bitCount_0f7a4 1 = .ok (.iload_n 0, 1) := dOf oJ6_bitCount_0f7a4_0 1 rfl
theorem dJ6_bitCount_0f7a4_2 : decode cJ6_bitCount_0f7a4 2 = .ok (.iconst 1, 1) := dOf oJ6_bitCount_0f7a4_0 2 rfl
theorem dJ6_bitCount_0f7a4_3 : decode cJ6_bitCount_0f7a4 3 = .ok (.iushr, 1) := dOf oJ6_bitCount_0f7a4_0 3 rfl
theorem dJ6_bitCount_0f7a4_4 : decode cJ6_bitCount_0f7a4 4 = .ok (.ldc_w 265, 3) := dOf oJ6_bitCount_0f7a4_0 4 rfl
theorem dJ6_bitCount_0f7a4_7 : decode cJ6_bitCount_0f7a4 7 = .ok (.iand, 1) := dOf oJ6_bitCount_0f7a4_0 5 rfl
theorem dJ6_bitCount_0f7a4_8 : decode cJ6_bitCount_0f7a4 8 = .ok (.isub, 1) := dOf oJ6_bitCount_0f7a4_0 6 rfl
theorem dJ6_bitCount_0f7a4_9 : decode cJ6_bitCount_0f7a4 9 = .ok (.istore_n 0, 1) := dOf oJ6_bitCount_0f7a4_0 7 rfl
theorem dJ6_bitCount_0f7a4_10 : decode cJ6_bitCount_0f7a4 10 = .ok (.iload_n 0, 1) := dOf oJ6_bitCount_0f7a4_0 8 rfl
theorem dJ6_bitCount_0f7a4_11 : decode cJ6_bitCount_0f7a4 11 = .ok (.ldc_w 266, 3) := dOf oJ6_bitCount_0f7a4_0 9 rfl
theorem dJ6_bitCount_0f7a4_14 : decode cJ6_bitCount_0f7a4 14 = .ok (.iand, 1) := dOf oJ6_bitCount_0f7a4_0 10 rfl
theorem dJ6_bitCount_0f7a4_15 : decode cJ6_bitCount_0f7a4 15 = .ok (.iload_n 0, 1) := dOf oJ6_bitCount_0f7a4_0 11 rfl
theorem dJ6_bitCount_0f7a4_16 : decode cJ6_bitCount_0f7a4 16 = .ok (.iconst 2, 1) := dOf oJ6_bitCount_0f7a4_0 12 rfl
theorem dJ6_bitCount_0f7a4_17 : decode cJ6_bitCount_0f7a4 17 = .ok (.iushr, 1) := dOf oJ6_bitCount_0f7a4_0 13 rfl
theorem dJ6_bitCount_0f7a4_18 : decode cJ6_bitCount_0f7a4 18 = .ok (.ldc_w 266, 3) := dOf oJ6_bitCount_0f7a4_0 14 rfl
theorem dJ6_bitCount_0f7a4_21 : decode cJ6_bitCount_0f7a4 21 = .ok (.iand, 1) := dOf oJ6_bitCount_0f7a4_0 15 rfl
theorem dJ6_bitCount_0f7a4_22 : decode cJ6_bitCount_0f7a4 22 = .ok (.iadd, 1) := dOf oJ6_bitCount_0f7a4_0 16 rfl
theorem dJ6_bitCount_0f7a4_23 : decode cJ6_bitCount_0f7a4 23 = .ok (.istore_n 0, 1) := dOf oJ6_bitCount_0f7a4_0 17 rfl
theorem dJ6_bitCount_0f7a4_24 : decode cJ6_bitCount_0f7a4 24 = .ok (.iload_n 0, 1) := dOf oJ6_bitCount_0f7a4_0 18 rfl
theorem dJ6_bitCount_0f7a4_25 : decode cJ6_bitCount_0f7a4 25 = .ok (.iload_n 0, 1) := dOf oJ6_bitCount_0f7a4_0 19 rfl
theorem dJ6_bitCount_0f7a4_26 : decode cJ6_bitCount_0f7a4 26 = .ok (.iconst 4, 1) := dOf oJ6_bitCount_0f7a4_0 20 rfl
theorem dJ6_bitCount_0f7a4_27 : decode cJ6_bitCount_0f7a4 27 = .ok (.iushr, 1) := dOf oJ6_bitCount_0f7a4_0 21 rfl
theorem dJ6_bitCount_0f7a4_28 : decode cJ6_bitCount_0f7a4 28 = .ok (.iadd, 1) := dOf oJ6_bitCount_0f7a4_0 22 rfl
theorem dJ6_bitCount_0f7a4_29 : decode cJ6_bitCount_0f7a4 29 = .ok (.ldc_w 267, 3) := dOf oJ6_bitCount_0f7a4_0 23 rfl
theorem dJ6_bitCount_0f7a4_32 : decode cJ6_bitCount_0f7a4 32 = .ok (.iand, 1) := dOf oJ6_bitCount_0f7a4_0 24 rfl
theorem dJ6_bitCount_0f7a4_33 : decode cJ6_bitCount_0f7a4 33 = .ok (.istore_n 0, 1) := dOf oJ6_bitCount_0f7a4_0 25 rfl
theorem dJ6_bitCount_0f7a4_34 : decode cJ6_bitCount_0f7a4 34 = .ok (.iload_n 0, 1) := dOf oJ6_bitCount_0f7a4_0 26 rfl
theorem dJ6_bitCount_0f7a4_35 : decode cJ6_bitCount_0f7a4 35 = .ok (.iload_n 0, 1) := dOf oJ6_bitCount_0f7a4_0 27 rfl
theorem dJ6_bitCount_0f7a4_36 : decode cJ6_bitCount_0f7a4 36 = .ok (.bipush 8, 2) := dOf oJ6_bitCount_0f7a4_0 28 rfl
theorem dJ6_bitCount_0f7a4_38 : decode cJ6_bitCount_0f7a4 38 = .ok (.iushr, 1) := dOf oJ6_bitCount_0f7a4_0 29 rfl
theorem dJ6_bitCount_0f7a4_39 : decode cJ6_bitCount_0f7a4 39 = .ok (.iadd, 1) := dOf oJ6_bitCount_0f7a4_0 30 rfl
theorem dJ6_bitCount_0f7a4_40 : decode cJ6_bitCount_0f7a4 40 = .ok (.istore_n 0, 1) := dOf oJ6_bitCount_0f7a4_0 31 rfl
theorem dJ6_bitCount_0f7a4_41 : decode cJ6_bitCount_0f7a4 41 = .ok (.iload_n 0, 1) := dOf oJ6_bitCount_0f7a4_0 32 rfl
theorem dJ6_bitCount_0f7a4_42 : decode cJ6_bitCount_0f7a4 42 = .ok (.iload_n 0, 1) := dOf oJ6_bitCount_0f7a4_0 33 rfl
theorem dJ6_bitCount_0f7a4_43 : decode cJ6_bitCount_0f7a4 43 = .ok (.bipush 16, 2) := dOf oJ6_bitCount_0f7a4_0 34 rfl
theorem dJ6_bitCount_0f7a4_45 : decode cJ6_bitCount_0f7a4 45 = .ok (.iushr, 1) := dOf oJ6_bitCount_0f7a4_0 35 rfl
theorem dJ6_bitCount_0f7a4_46 : decode cJ6_bitCount_0f7a4 46 = .ok (.iadd, 1) := dOf oJ6_bitCount_0f7a4_0 36 rfl
theorem dJ6_bitCount_0f7a4_47 : decode cJ6_bitCount_0f7a4 47 = .ok (.istore_n 0, 1) := dOf oJ6_bitCount_0f7a4_0 37 rfl
theorem dJ6_bitCount_0f7a4_48 : decode cJ6_bitCount_0f7a4 48 = .ok (.iload_n 0, 1) := dOf oJ6_bitCount_0f7a4_0 38 rfl
theorem dJ6_bitCount_0f7a4_49 : decode cJ6_bitCount_0f7a4 49 = .ok (.bipush 63, 2) := dOf oJ6_bitCount_0f7a4_0 39 rfl
theorem dJ6_bitCount_0f7a4_51 : decode cJ6_bitCount_0f7a4 51 = .ok (.iand, 1) := dOf oJ6_bitCount_0f7a4_0 40 rfl
theorem dJ6_bitCount_0f7a4_52 : decode cJ6_bitCount_0f7a4 52 = .ok (.ireturn, 1) := dOf oJ6_bitCount_0f7a4_0 41 rfl
def eJ9_max_7cf53_0 : List (Nat × Instr × Nat) := [(0, .iload_n 0, 1), (1, .iload_n 1, 1), (2, .if_icmp .lt 7, 3), (5, .iload_n 0, 1), (6, .goto 4, 3), (9, .iload_n 1, 1), (10, .ireturn, 1)]
theorem oJ9_max_7cf53_0 : okC cJ9_max_7cf53 eJ9_max_7cf53_0 = true := by decide +kernel
theorem dJ9_max_7cf53_0 : decode cJ9_max_7cf53 0 = .ok (.iload_n 0, 1) := dOf oJ9_max_7cf53_0 0 rfl
theorem dJ9_max_7cf53_1 : decode cJ9_max_7cf53 1 = .ok (.iload_n 1, 1) := dOf oJ9_max_7cf53_0 1 rfl
theorem dJ9_max_7cf53_2 : decode cJ9_max_7cf53 2 = .ok (.if_icmp .lt 7, 3) := dOf oJ9_max_7cf53_0 2 rfl
theorem dJ9_max_7cf53_5 : decode cJ9_max_7cf53 5 = .ok (.iload_n 0, 1) := dOf oJ9_max_7cf53_0 3 rfl
theorem dJ9_max_7cf53_6 : decode cJ9_max_7cf53 6 = .ok (.goto 4, 3) := dOf oJ9_max_7cf53_0 4 rfl
theorem dJ9_max_7cf53_9 : decode cJ9_max_7cf53 9 = .ok (.iload_n 1, 1) := dOf oJ9_max_7cf53_0 5 rfl
theorem dJ9_max_7cf53_10 : decode cJ9_max_7cf53 10 = .ok (.ireturn, 1) := dOf oJ9_max_7cf53_0 6 rfl
def eJ9_min_7cf53_0 : List (Nat × Instr × Nat) := [(0, .iload_n 0, 1), (1, .iload_n 1, 1), (2, .if_icmp .gt 7, 3), (5, .iload_n 0, 1), (6, .goto 4, 3), (9, .iload_n 1, 1), (10, .ireturn, 1)]
theorem oJ9_min_7cf53_0 : okC cJ9_min_7cf53 eJ9_min_7cf53_0 = true := by decide +kernel
theorem dJ9_min_7cf53_0 : decode cJ9_min_7cf53 0 = .ok (.iload_n 0, 1) := dOf oJ9_min_7cf53_0 0 rfl
theorem dJ9_min_7cf53_1 : decode cJ9_min_7cf53 1 = .ok (.iload_n 1, 1) := dOf oJ9_min_7cf53_0 1 rfl
theorem dJ9_min_7cf53_2 : decode cJ9_min_7cf53 2 = .ok (.if_icmp .gt 7, 3) := dOf oJ9_min_7cf53_0 2 rfl
theorem dJ9_min_7cf53_5 : decode cJ9_min_7cf53 5 = .ok (.iload_n 0, 1) := dOf oJ9_min_7cf53_0 3 rfl
theorem dJ9_min_7cf53_6 : decode cJ9_min_7cf53 6 = .ok (.goto 4, 3) := dOf oJ9_min_7cf53_0 4 rfl
theorem dJ9_min_7cf53_9 : decode cJ9_min_7cf53 9 = .ok (.iload_n 1, 1) := dOf oJ9_min_7cf53_0 5 rfl
theorem dJ9_min_7cf53_10 : decode cJ9_min_7cf53 10 = .ok (.ireturn, 1) := dOf oJ9_min_7cf53_0 6 rfl
def eJ0_length_8abf5_0 : List (Nat × Instr × Nat) := [(0, .aload_n 0, 1), (1, .getfield 9, 3), (4, .arraylength, 1), (5, .aload_n 0, 1), (6, .invokevirtual 335, 3), (9, .ishr, 1), (10, .ireturn, 1)]
theorem oJ0_length_8abf5_0 : okC cJ0_length_8abf5 eJ0_length_8abf5_0 = true := by decide +kernel
theorem dJ0_length_8abf5_0 : decode cJ0_length_8abf5 0 = .ok (.aload_n 0, 1) := dOf oJ0_length_8abf5_0 0 rfl
theorem dJ0_length_8abf5_1 : decode cJ0_length_8abf5 1 = .ok (.getfield 9, 3) := dOf oJ0_length_8abf5_0 1 rfl
theorem dJ0_length_8abf5_4 : decode cJ0_length_8abf5 4 = .ok (.arraylength, 1) := dOf oJ0_length_8abf5_0 2 rfl
theorem dJ0_length_8abf5_5 : decode cJ0_length_8abf5 5 = .ok (.aload_n 0, 1) := dOf oJ0_length_8abf5_0 3 rfl
theorem dJ0_length_8abf5_6 : decode cJ0_length_8abf5 6 = .ok (.invokevirtual 335, 3) := dOf oJ0_length_8abf5_0 4 rfl
theorem dJ0_length_8abf5_9 : decode cJ0_length_8abf5 9 = .ok (.ishr, 1) := dOf oJ0_length_8abf5_0 5 rfl
theorem dJ0_length_8abf5_10 : decode cJ0_length_8abf5 10 = .ok (.ireturn, 1) := dOf oJ0_length_8abf5_0 6 rfl
def eJ0_indexOf_0f7a4_0 : List (Nat × Instr × Nat) := [(0, .aload_n 0, 1), (1, .iload_n 1, 1), (2, .iconst 0, 1), (3, .invokevirtual 633, 3), (6, .ireturn, 1)]
theorem oJ0_indexOf_0f7a4_0 : okC cJ0_indexOf_0f7a4 eJ0_indexOf_0f7a4_0 = true := by decide +kernel
theorem dJ0_indexOf_0f7a4_0 : decode cJ0_indexOf_0f7a4 0 = .ok (.aload_n 0, 1) := dOf oJ0_indexOf_0f7a4_0 0 rfl
theorem dJ0_indexOf_0f7a4_1 : decode cJ0_indexOf_0f7a4 1 = .ok (.iload_n 1, 1) := dOf oJ0_indexOf_0f7a4_0 1 rfl
theorem dJ0_indexOf_0f7a4_2 : decode cJ0_indexOf_0f7a4 2 = .ok (.iconst 0, 1) := dOf oJ0_indexOf_0f7a4_0 2 rfl
theorem dJ0_indexOf_0f7a4_3 : decode cJ0_indexOf_0f7a4 3 = .ok (.invokevirtual 633, 3) := dOf oJ0_indexOf_0f7a4_0 3 rfl
theorem dJ0_indexOf_0f7a4_6 : decode cJ0_indexOf_0f7a4 6 = .ok (.ireturn, 1) := dOf oJ0_indexOf_0f7a4_0 4 rfl
def eJ0_indexOf_7cf53_0 : List (Nat × Instr × Nat) := [(0, .aload_n 0, 1), (1, .invokevirtual 492, 3), (4, .ifCond .eq 19, 3), (7, .aload_n 0, 1), (8, .getfield 9, 3), (11, .iload_n 1, 1), (12, .iload_n 2, 1), (13, .aload_n 0, 1), (14, .invokevirtual 505, 3), (17, .invokestatic 637, 3), (20, .goto 16, 3), (23, .aload_n 0, 1), (24, .getfield 9, 3), (27, .iload_n 1, 1), (28, .iload_n 2, 1), (29, .aload_n 0, 1), (30, .invokevirtual 505, 3), (33, .invokestatic 640, 3), (36, .ireturn, 1)]
theorem oJ0_indexOf_7cf53_0 : okC cJ0_indexOf_7cf53 eJ0_indexOf_7cf53_0 = true := by decide +kernel
theorem dJ0_indexOf_7cf53_0 : decode cJ0_indexOf_7cf53 0 = .ok (.aload_n 0, 1) := dOf oJ0_indexOf_7cf53_0 0 rfl
theorem dJ0_indexOf_7cf53_1 : decode cJ0_indexOf_7cf53 1 = .ok (.invokevirtual 492, 3) := dOf oJ0_indexOf_7cf53_0 1 rfl
theorem dJ0_indexOf_7cf53_4 : decode cJ0_indexOf_7cf53 4 = .ok (.ifCond .eq 19, 3) := dOf oJ0_indexOf_7cf53_0 2 rfl
theorem dJ0_indexOf_7cf53_7 : decode cJ0_indexOf_7cf53 7 = .ok (.aload_n 0, 1) := dOf oJ0_indexOf_7cf53_0 3 rfl
theorem dJ0_indexOf_7cf53_8 : decode cJ0_indexOf_7cf53 8 = .ok (.getfield 9, 3) := dOf oJ0_indexOf_7cf53_0 4 rfl
theorem dJ0_indexOf_7cf53_11 : decode cJ0_indexOf_7cf53 11 = .ok (.iload_n 1, 1) := dOf oJ0_indexOf_7cf53_0 5 rfl
theorem dJ0_indexOf_7cf53_12 : decode cJ0_indexOf_7cf53 12 = .ok (.iload_n 2, 1) := dOf oJ0_indexOf_7cf53_0 6 rfl
theorem dJ0_indexOf_7cf53_13 : decode cJ0_indexOf_7cf53 13 = .ok (.aload_n 0, 1) := dOf oJ0_indexOf_7cf53_0 7 rfl
theorem dJ0_indexOf_7cf53_14 : decode cJ0_indexOf_7cf53 14 = .ok (.invokevirtual 505, 3) := dOf oJ0_indexOf_7cf53_0 8 rfl
theorem dJ0_indexOf_7cf53_17 : decode cJ0_indexOf_7cf53 17 = .ok (.invokestatic 637, 3) := dOf oJ0_indexOf_7cf53_0 9 rfl
theorem dJ0_indexOf_7cf53_20 : decode cJ0_indexOf_7cf53 20 = .ok (.goto 16, 3) := dOf oJ0_indexOf_7cf53_0 10 rfl
theorem dJ0_indexOf_7cf53_23 : decode cJ0_indexOf_7cf53 23 = .ok (.aload_n 0, 1) := dOf oJ0_indexOf_7cf53_0 11 rfl
theorem dJ0_indexOf_7cf53_24 : decode cJ0_indexOf_7cf53 24 = .ok (.getfield 9, 3) := dOf oJ0_indexOf_7cf53_0 12 rfl
theorem dJ0_indexOf_7cf53_27 : decode cJ0_indexOf_7cf53 27 = .ok (.iload_n 1, 1) := dOf oJ0_indexOf_7cf53_0 13 rfl
theorem dJ0_indexOf_7cf53_28 : decode cJ0_indexOf_7cf53 28 = .ok (.iload_n 2, 1) := dOf oJ0_indexOf_7cf53_0 14 rfl
theorem dJ0_indexOf_7cf53_29 : decode cJ0_indexOf_7cf53 29 = .ok (.aload_n 0, 1) := dOf oJ0_indexOf_7cf53_0 15 rfl
theorem dJ0_indexOf_7cf53_30 : decode cJ0_indexOf_7cf53 30 = .ok (.invokevirtual 505, 3) := dOf oJ0_indexOf_7cf53_0 16 rfl
theorem dJ0_indexOf_7cf53_33 : decode cJ0_indexOf_7cf53 33 = .ok (.invokestatic 640, 3) := dOf oJ0_indexOf_7cf53_0 17 rfl
theorem dJ0_indexOf_7cf53_36 : decode cJ0_indexOf_7cf53 36 = .ok (.ireturn, 1) := dOf oJ0_indexOf_7cf53_0 18 rfl
def eJ0_coder_7d493_0 : List (Nat × Instr × Nat) := [(0, .getstatic 38, 3), (3, .ifCond .eq 10, 3), (6, .aload_n 0, 1), (7, .getfield 15, 3), (10, .goto 4, 3), (13, .iconst 1, 1), (14, .ireturn, 1)]
theorem oJ0_coder_7d493_0 : okC cJ0_coder_7d493 eJ0_coder_7d493_0 = true := by decide +kernel
theorem dJ0_coder_7d493_0 : decode cJ0_coder_7d493 0 = .ok (.getstatic 38, 3) := dOf oJ0_coder_7d493_0 0 rfl
theorem dJ0_coder_7d493_3 : decode cJ0_coder_7d493 3 = .ok (.ifCond .eq 10, 3) := dOf oJ0_coder_7d493_0 1 rfl
theorem dJ0_coder_7d493_6 : decode cJ0_coder_7d493 6 = .ok (.aload_n 0, 1) := dOf oJ0_coder_7d493_0 2 rfl
theorem dJ0_coder_7d493_7 : decode cJ0_coder_7d493 7 = .ok (.getfield 15, 3) := dOf oJ0_coder_7d493_0 3 rfl
theorem dJ0_coder_7d493_10 : decode cJ0_coder_7d493 10 = .ok (.goto 4, 3) := dOf oJ0_coder_7d493_0 4 rfl
theorem dJ0_coder_7d493_13 : decode cJ0_coder_7d493 13 = .ok (.iconst 1, 1) := dOf oJ0_coder_7d493_0 5 rfl
theorem dJ0_coder_7d493_14 : decode cJ0_coder_7d493 14 = .ok (.ireturn, 1) := dOf oJ0_coder_7d493_0 6 rfl
def eJ0_isLatin1_aae02_0 : List (Nat × Instr × Nat) := [(0, .getstatic 38, 3), (3, .ifCond .eq 14, 3), (6, .aload_n 0, 1), (7, .getfield 15, 3), (10, .ifCond .ne 7, 3), (13, .iconst 1, 1), (14, .goto 4, 3), (17, .iconst 0, 1), (18, .ireturn, 1)]
theorem oJ0_isLatin1_aae02_0 : okC cJ0_isLatin1_aae02 eJ0_isLatin1_aae02_0 = true := by decide +kernel
theorem dJ0_isLatin1_aae02_0 : decode cJ0_isLatin1_aae02 0 = .ok (.getstatic 38, 3) := dOf oJ0_isLatin1_aae02_0 0 rfl
theorem dJ0_isLatin1_aae02_3 : decode cJ0_isLatin1_aae02 3 = .ok (.ifCond .eq 14, 3) := dOf oJ0_isLatin1_aae02_0 1 rfl
theorem dJ0_isLatin1_aae02_6 : decode cJ0_isLatin1_aae02 6 = .ok (.aload_n 0, 1) := dOf oJ0_isLatin1_aae02_0 2 rfl
theorem dJ0_isLatin1_aae02_7 : decode cJ0_isLatin1_aae02 7 = .ok (.getfield 15, 3) := dOf oJ0_isLatin1_aae02_0 3 rfl
theorem dJ0_isLatin1_aae02_10 : decode cJ0_isLatin1_aae02 10 = .ok (.ifCond .ne 7, 3) := dOf oJ0_isLatin1_aae02_0 4 rfl
theorem dJ0_isLatin1_aae02_13 : decode cJ0_isLatin1_aae02 13 = .ok (.iconst 1, 1) := dOf oJ0_isLatin1_aae02_0 5 rfl
theorem dJ0_isLatin1_aae02_14 : decode cJ0_isLatin1_aae02 14 = .ok (.goto 4, 3) := dOf oJ0_isLatin1_aae02_0 6 rfl
theorem dJ0_isLatin1_aae02_17 : decode cJ0_isLatin1_aae02 17 = .ok (.iconst 0, 1) := dOf oJ0_isLatin1_aae02_0 7 rfl
theorem dJ0_isLatin1_aae02_18 : decode cJ0_isLatin1_aae02 18 = .ok (.ireturn, 1) := dOf oJ0_isLatin1_aae02_0 8 rfl
def eJ1_canEncode_9a6ad_0 : List (Nat × Instr × Nat) := [(0, .iload_n 0, 1), (1, .ifCond .lt 14, 3), (4, .iload_n 0, 1), (5, .sipush 255, 3), (8, .if_icmp .gt 7, 3), (11, .iconst 1, 1), (12, .goto 4, 3), (15, .iconst 0, 1), (16, .ireturn, 1)]
theorem oJ1_canEncode_9a6ad_0 : okC cJ1_canEncode_9a6ad eJ1_canEncode_9a6ad_0 = true := by decide +kernel
theorem dJ1_canEncode_9a6ad_0 : decode cJ1_canEncode_9a6ad 0 = .ok (.iload_n 0, 1) := dOf oJ1_canEncode_9a6ad_0 0 rfl
theorem dJ1_canEncode_9a6ad_1 : decode cJ1_canEncode_9a6ad 1 = .ok (.ifCond .lt 14, 3) := dOf oJ1_canEncode_9a6ad_0 1 rfl
theorem dJ1_canEncode_9a6ad_4 : decode cJ1_canEncode_9a6ad 4 = .ok (.iload_n 0, 1) := dOf oJ1_canEncode_9a6ad_0 2 rfl
theorem dJ1_canEncode_9a6ad_5 : decode cJ1_canEncode_9a6ad 5 = .ok (.sipush 255, 3) := dOf oJ1_canEncode_9a6ad_0 3 rfl
theorem dJ1_canEncode_9a6ad_8 : decode cJ1_canEncode_9a6ad 8 = .ok (.if_icmp .gt 7, 3) := dOf oJ1_canEncode_9a6ad_0 4 rfl
theorem dJ1_canEncode_9a6ad_11 : decode cJ1_canEncode_9a6ad 11 = .ok (.iconst 1, 1) := dOf oJ1_canEncode_9a6ad_0 5 rfl
theorem dJ1_canEncode_9a6ad_12 : decode cJ1_canEncode_9a6ad 12 = .ok (.goto 4, 3) := dOf oJ1_canEncode_9a6ad_0 6 rfl
theorem dJ1_canEncode_9a6ad_15 : decode cJ1_canEncode_9a6ad 15 = .ok (.iconst 0, 1) := dOf oJ1_canEncode_9a6ad_0 7 rfl
theorem dJ1_canEncode_9a6ad_16 : decode cJ1_canEncode_9a6ad 16 = .ok (.ireturn, 1) := dOf oJ1_canEncode_9a6ad_0 8 rfl
def eJ1_indexOf_4cfef_0 : List (Nat × Instr × Nat) := [(0, .iload_n 1, 1), (1, .invokestatic 88, 3), (4, .ifCond .ne 5, 3), (7, .iconst (-1), 1), (8, .ireturn, 1), (9, .iload_n 2, 1), (10, .iconst 0, 1), (11, .invokestatic 92, 3), (14, .istore_n 2, 1), (15, .iload_n 3, 1), (16, .aload_n 0, 1), (17, .arraylength, 1), (18, .invokestatic 38, 3), (21, .istore_n 3, 1), (22, .iload_n 2, 1), (23, .iload_n 3, 1), (24, .if_icmp .lt 5, 3), (27, .iconst (-1), 1), (28, .ireturn, 1), (29, .aload_n 0, 1), (30, .iload_n 1, 1), (31, .iload_n 2, 1), (32, .iload_n 3, 1), (33, .invokestatic 95, 3), (36, .ireturn, 1)]
theorem oJ1_indexOf_4cfef_0 : okC cJ1_indexOf_4cfef eJ1_indexOf_4cfef_0 = true := by decide +kernel
theorem dJ1_indexOf_4cfef_0 : decode cJ1_indexOf_4cfef 0 = .ok (.iload_n 1, 1) := dOf oJ1_indexOf_4cfef_0 0 rfl
theorem dJ1_indexOf_4cfef_1 : decode cJ1_indexOf_4cfef 1 = .ok (.invokestatic 88, 3) := dOf oJ1_indexOf_4cfef_0 1 rfl
theorem dJ1_indexOf_4cfef_4 : decode cJ1_indexOf_4cfef 4 = .ok (.ifCond .ne 5, 3) := dOf oJ1_indexOf_4cfef_0 2 rfl
theorem dJ1_indexOf_4cfef_7 : decode cJ1_indexOf_4cfef 7 = .ok (.iconst (-1), 1) := dOf oJ1_indexOf_4cfef_0 3 rfl
theorem dJ1_indexOf_4cfef_8 : decode cJ1_indexOf_4cfef 8 = .ok (.ireturn, 1) := dOf oJ1_indexOf_4cfef_0 4 rfl
theorem dJ1_indexOf_4cfef_9 : decode cJ1_indexOf_4cfef 9 = .ok (.iload_n 2, 1) := dOf oJ1_indexOf_4cfef_0 5 rfl
theorem dJ1_indexOf_4cfef_10 : decode cJ1_indexOf_4cfef 10 = .ok (.iconst 0, 1) := dOf oJ1_indexOf_4cfef_0 6 rfl
theorem dJ1_indexOf_4cfef_11 : decode cJ1_indexOf_4cfef 11 = .ok (.invokestatic 92, 3) := dOf oJ1_indexOf_4cfef_0 7 rfl
theorem dJ1_indexOf_4cfef_14 : decode cJ1_indexOf_4cfef 14 = .ok (.istore_n 2, 1) := dOf oJ1_indexOf_4cfef_0 8 rfl
theorem dJ1_indexOf_4cfef_15 : decode cJ1_indexOf_4cfef 15 = .ok (.iload_n 3, 1) := dOf oJ1_indexOf_4cfef_0 9 rfl
theorem dJ1_indexOf_4cfef_16 : decode cJ1_indexOf_4cfef 16 = .ok (.aload_n 0, 1) := dOf oJ1_indexOf_4cfef_0 10 rfl
theorem dJ1_indexOf_4cfef_17 : decode cJ1_indexOf_4cfef 17 = .ok (.arraylength, 1) := dOf oJ1_indexOf_4cfef_0 11 rfl
theorem dJ1_indexOf_4cfef_18 : decode cJ1_indexOf_4cfef 18 = .ok (.invokestatic 38, 3) := dOf oJ1_indexOf_4cfef_0 12 rfl
theorem dJ1_indexOf_4cfef_21 : decode cJ1_indexOf_4cfef 21 = .ok (.istore_n 3, 1) := dOf oJ1_indexOf_4cfef_0 13 rfl
theorem dJ1_indexOf_4cfef_22 : decode cJ1_indexOf_4cfef 22 = .ok (.iload_n 2, 1) := dOf oJ1_indexOf_4cfef_0 14 rfl
theorem dJ1_indexOf_4cfef_23 : decode cJ1_indexOf_4cfef 23 = .ok (.iload_n 3, 1) := dOf oJ1_indexOf_4cfef_0 15 rfl
theorem dJ1_indexOf_4cfef_24 : decode cJ1_indexOf_4cfef 24 = .ok (.if_icmp .lt 5, 3) := dOf oJ1_indexOf_4cfef_0 16 rfl
theorem dJ1_indexOf_4cfef_27 : decode cJ1_indexOf_4cfef 27 = .ok (.iconst (-1), 1) := dOf oJ1_indexOf_4cfef_0 17 rfl
theorem dJ1_indexOf_4cfef_28 : decode cJ1_indexOf_4cfef 28 = .ok (.ireturn, 1) := dOf oJ1_indexOf_4cfef_0 18 rfl
theorem dJ1_indexOf_4cfef_29 : decode cJ1_indexOf_4cfef 29 = .ok (.aload_n 0, 1) := dOf oJ1_indexOf_4cfef_0 19 rfl
theorem dJ1_indexOf_4cfef_30 : decode cJ1_indexOf_4cfef 30 = .ok (.iload_n 1, 1) := dOf oJ1_indexOf_4cfef_0 20 rfl
theorem dJ1_indexOf_4cfef_31 : decode cJ1_indexOf_4cfef 31 = .ok (.iload_n 2, 1) := dOf oJ1_indexOf_4cfef_0 21 rfl
theorem dJ1_indexOf_4cfef_32 : decode cJ1_indexOf_4cfef 32 = .ok (.iload_n 3, 1) := dOf oJ1_indexOf_4cfef_0 22 rfl
theorem dJ1_indexOf_4cfef_33 : decode cJ1_indexOf_4cfef 33 = .ok (.invokestatic 95, 3) := dOf oJ1_indexOf_4cfef_0 23 rfl
theorem dJ1_indexOf_4cfef_36 : decode cJ1_indexOf_4cfef 36 = .ok (.ireturn, 1) := dOf oJ1_indexOf_4cfef_0 24 rfl
def eJ1_indexOfChar_4cfef_0 : List (Nat × Instr × Nat) := [(0, .iload_n 1, 1), (1, .i2b, 1), (2, .istore 4, 2), (4, .iload_n 2, 1), (5, .istore 5, 2), (7, .iload 5, 2), (9, .iload_n 3, 1), (10, .if_icmp .ge 21, 3), (13, .aload_n 0, 1), (14, .iload 5, 2), (16, .baload, 1), (17, .iload 4, 2), (19, .if_icmp .ne 6, 3), (22, .iload 5, 2), (24, .ireturn, 1), (25, .iinc 5 1, 3), (28, .goto (-21), 3), (31, .iconst (-1), 1), (32, .ireturn, 1)]
theorem oJ1_indexOfChar_4cfef_0 : okC cJ1_indexOfChar_4cfef eJ1_indexOfChar_4cfef_0 = true := by decide +kernel
theorem dJ1_indexOfChar_4cfef_0 : decode cJ1_indexOfChar_4cfef 0 = .ok (.iload_n 1, 1) := dOf oJ1_indexOfChar_4cfef_0 0 rfl
theorem dJ1_indexOfChar_4cfef_1 : decode cJ1_indexOfChar_4cfef 1 = .ok (.i2b, 1) := dOf oJ1_indexOfChar_4cfef_0 1 rfl
theorem dJ1_indexOfChar_4cfef_2 : decode cJ1_indexOfChar_4cfef 2 = .ok (.istore 4, 2) := dOf oJ1_indexOfChar_4cfef_0 2 rfl
theorem dJ1_indexOfChar_4cfef_4 : decode cJ1_indexOfChar_4cfef 4 = .ok (.iload_n 2, 1) := dOf oJ1_indexOfChar_4cfef_0 3 rfl
theorem dJ1_indexOfChar_4cfef_5 : decode cJ1_indexOfChar_4cfef 5 = .ok (.istore 5, 2) := dOf oJ1_indexOfChar_4cfef_0 4 rfl
theorem dJ1_indexOfChar_4cfef_7 : decode cJ1_indexOfChar_4cfef 7 = .ok (.iload 5, 2) := dOf oJ1_indexOfChar_4cfef_0 5 rfl
theorem dJ1_indexOfChar_4cfef_9 : decode cJ1_indexOfChar_4cfef 9 = .ok (.iload_n 3, 1) := dOf oJ1_indexOfChar_4cfef_0 6 rfl
theorem dJ1_indexOfChar_4cfef_10 : decode cJ1_indexOfChar_4cfef 10 = .ok (.if_icmp .ge 21, 3) := dOf oJ1_indexOfChar_4cfef_0 7 rfl
theorem dJ1_indexOfChar_4cfef_13 : decode cJ1_indexOfChar_4cfef 13 = .ok (.aload_n 0, 1) := dOf oJ1_indexOfChar_4cfef_0 8 rfl
theorem dJ1_indexOfChar_4cfef_14 : decode cJ1_indexOfChar_4cfef 14 = .ok (.iload 5, 2) := dOf oJ1_indexOfChar_4cfef_0 9 rfl
theorem dJ1_indexOfChar_4cfef_16 : decode cJ1_indexOfChar_4cfef 16 = .ok (.baload, 1) := dOf oJ1_indexOfChar_4cfef_0 10 rfl
theorem dJ1_indexOfChar_4cfef_17 : decode cJ1_indexOfChar_4cfef 17 = .ok (.iload 4, 2) := dOf oJ1_indexOfChar_4cfef_0 11 rfl
theorem dJ1_indexOfChar_4cfef_19 : decode cJ1_indexOfChar_4cfef 19 = .ok (.if_icmp .ne 6, 3) := dOf oJ1_indexOfChar_4cfef_0 12 rfl
theorem dJ1_indexOfChar_4cfef_22 : decode cJ1_indexOfChar_4cfef 22 = .ok (.iload 5, 2) := dOf oJ1_indexOfChar_4cfef_0 13 rfl
theorem dJ1_indexOfChar_4cfef_24 : decode cJ1_indexOfChar_4cfef 24 = .ok (.ireturn, 1) := dOf oJ1_indexOfChar_4cfef_0 14 rfl
theorem dJ1_indexOfChar_4cfef_25 : decode cJ1_indexOfChar_4cfef 25 = .ok (.iinc 5 1, 3) := dOf oJ1_indexOfChar_4cfef_0 15 rfl
theorem dJ1_indexOfChar_4cfef_28 : decode cJ1_indexOfChar_4cfef 28 = .ok (.goto (-21), 3) := dOf oJ1_indexOfChar_4cfef_0 16 rfl
theorem dJ1_indexOfChar_4cfef_31 : decode cJ1_indexOfChar_4cfef 31 = .ok (.iconst (-1), 1) := dOf oJ1_indexOfChar_4cfef_0 17 rfl
theorem dJ1_indexOfChar_4cfef_32 : decode cJ1_indexOfChar_4cfef 32 = .ok (.ireturn, 1) := dOf oJ1_indexOfChar_4cfef_0 18 rfl
def eJ7_fill_53178_0 : List (Nat × Instr × Nat) := [(0, .iconst 0, 1), (1, .istore_n 2, 1), (2, .aload_n 0, 1), (3, .arraylength, 1), (4, .istore_n 3, 1), (5, .iload_n 2, 1), (6, .iload_n 3, 1), (7, .if_icmp .ge 13, 3), (10, .aload_n 0, 1), (11, .iload_n 2, 1), (12, .iload_n 1, 1), (13, .iastore, 1), (14, .iinc 2 1, 3), (17, .goto (-12), 3), (20, .return_, 1)]
theorem oJ7_fill_53178_0 : okC cJ7_fill_53178 eJ7_fill_53178_0 = true := by decide +kernel
theorem dJ7_fill_53178_0 : decode cJ7_fill_53178 0 = .ok (.iconst 0, 1) := dOf oJ7_fill_53178_0 0 rfl
theorem dJ7_fill_53178_1 : decode cJ7_fill_53178 1 = .ok (.istore_n 2, 1) := dOf oJ7_fill_53178_0 1 rfl
theorem dJ7_fill_53178_2 : decode cJ7_fill_53178 2 = .ok (.aload_n 0, 1) := dOf oJ7_fill_53178_0 2 rfl
theorem dJ7_fill_53178_3 : decode cJ7_fill_53178 3 = .ok (.arraylength, 1) := dOf oJ7_fill_53178_0 3 rfl
theorem dJ7_fill_53178_4 : decode cJ7_fill_53178 4 = .ok (.istore_n 3, 1) := dOf oJ7_fill_53178_0 4 rfl
theorem dJ7_fill_53178_5 : decode cJ7_fill_53178 5 = .ok (.iload_n 2, 1) := dOf oJ7_fill_53178_0 5 rfl
theorem dJ7_fill_53178_6 : decode cJ7_fill_53178 6 = .ok (.iload_n 3, 1) := dOf oJ7_fill_53178_0 6 rfl
theorem dJ7_fill_53178_7 : decode cJ7_fill_53178 7 = .ok (.if_icmp .ge 13, 3) := dOf oJ7_fill_53178_0 7 rfl
theorem dJ7_fill_53178_10 : decode cJ7_fill_53178 10 = .ok (.aload_n 0, 1) := dOf oJ7_fill_53178_0 8 rfl
theorem dJ7_fill_53178_11 : decode cJ7_fill_53178 11 = .ok (.iload_n 2, 1) := dOf oJ7_fill_53178_0 9 rfl
theorem dJ7_fill_53178_12 : decode cJ7_fill_53178 12 = .ok (.iload_n 1, 1) := dOf oJ7_fill_53178_0 10 rfl
theorem dJ7_fill_53178_13 : decode cJ7_fill_53178 13 = .ok (.iastore, 1) := dOf oJ7_fill_53178_0 11 rfl
theorem dJ7_fill_53178_14 : decode cJ7_fill_53178 14 = .ok (.iinc 2 1, 3) := dOf oJ7_fill_53178_0 12 rfl
theorem dJ7_fill_53178_17 : decode cJ7_fill_53178 17 = .ok (.goto (-12), 3) := dOf oJ7_fill_53178_0 13 rfl
theorem dJ7_fill_53178_20 : decode cJ7_fill_53178 20 = .ok (.return_, 1) := dOf oJ7_fill_53178_0 14 rfl
def eJ7_fill_031fb_0 : List (Nat × Instr × Nat) := [(0, .iconst 0, 1), (1, .istore_n 2, 1), (2, .aload_n 0, 1), (3, .arraylength, 1), (4, .istore_n 3, 1), (5, .iload_n 2, 1), (6, .iload_n 3, 1), (7, .if_icmp .ge 13, 3), (10, .aload_n 0, 1), (11, .iload_n 2, 1), (12, .iload_n 1, 1), (13, .bastore, 1), (14, .iinc 2 1, 3), (17, .goto (-12), 3), (20, .return_, 1)]
theorem oJ7_fill_031fb_0 : okC cJ7_fill_031fb eJ7_fill_031fb_0 = true := by decide +kernel
theorem dJ7_fill_031fb_0 : decode cJ7_fill_031fb 0 = .ok (.iconst 0, 1) := dOf oJ7_fill_031fb_0 0 rfl
theorem dJ7_fill_031fb_1 : decode cJ7_fill_031fb 1 = .ok (.istore_n 2, 1) := dOf oJ7_fill_031fb_0 1 rfl
theorem dJ7_fill_031fb_2 : decode cJ7_fill_031fb 2 = .ok (.aload_n 0, 1) := dOf oJ7_fill_031fb_0 2 rfl
theorem dJ7_fill_031fb_3 : decode cJ7_fill_031fb 3 = .ok (.arraylength, 1) := dOf oJ7_fill_031fb_0 3 rfl
theorem dJ7_fill_031fb_4 : decode cJ7_fill_031fb 4 = .ok (.istore_n 3, 1) := dOf oJ7_fill_031fb_0 4 rfl
theorem dJ7_fill_031fb_5 : decode cJ7_fill_031fb 5 = .ok (.iload_n 2, 1) := dOf oJ7_fill_031fb_0 5 rfl
theorem dJ7_fill_031fb_6 : decode cJ7_fill_031fb 6 = .ok (.iload_n 3, 1) := dOf oJ7_fill_031fb_0 6 rfl
theorem dJ7_fill_031fb_7 : decode cJ7_fill_031fb 7 = .ok (.if_icmp .ge 13, 3) := dOf oJ7_fill_031fb_0 7 rfl
theorem dJ7_fill_031fb_10 : decode cJ7_fill_031fb 10 = .ok (.aload_n 0, 1) := dOf oJ7_fill_031fb_0 8 rfl
theorem dJ7_fill_031fb_11 : decode cJ7_fill_031fb 11 = .ok (.iload_n 2, 1) := dOf oJ7_fill_031fb_0 9 rfl
theorem dJ7_fill_031fb_12 : decode cJ7_fill_031fb 12 = .ok (.iload_n 1, 1) := dOf oJ7_fill_031fb_0 10 rfl
theorem dJ7_fill_031fb_13 : decode cJ7_fill_031fb 13 = .ok (.bastore, 1) := dOf oJ7_fill_031fb_0 11 rfl
theorem dJ7_fill_031fb_14 : decode cJ7_fill_031fb 14 = .ok (.iinc 2 1, 3) := dOf oJ7_fill_031fb_0 12 rfl
theorem dJ7_fill_031fb_17 : decode cJ7_fill_031fb 17 = .ok (.goto (-12), 3) := dOf oJ7_fill_031fb_0 13 rfl
theorem dJ7_fill_031fb_20 : decode cJ7_fill_031fb 20 = .ok (.return_, 1) := dOf oJ7_fill_031fb_0 14 rfl
def eL_law_0 : List (Nat × Instr × Nat) := [(0, .new 7, 3), (3, .dup, 1), (4, .invokespecial 9, 3), (7, .astore_n 1, 1), (8, .new 10, 3), (11, .dup, 1), (12, .invokespecial 12, 3), (15, .astore_n 2, 1), (16, .iconst 0, 1), (17, .istore_n 3, 1), (18, .iload_n 3, 1), (19, .aload_n 0, 1), (20, .arraylength, 1), (21, .bipush 6, 2), (23, .isub, 1), (24, .if_icmp .gt 994, 3), (27, .aload_n 0, 1), (28, .iload_n 3, 1), (29, .iaload, 1), (30, .bipush 31, 2), (32, .iand, 1), (33, .tableswitch 979 0 28 #[131, 194, 207, 260, 293, 326, 369, 392, 415, 439, 462, 495, 518, 531, 554, 567, 590, 613, 626, 659, 672, 685, 698, 731, 774, 797, 840, 863, 916], 131), (164, .aload_n 1, 1), (165, .aload_n 0, 1), (166, .iload_n 3, 1), (167, .iconst 1, 1), (168, .iadd, 1), (169, .iaload, 1), (170, .i2l, 1), (171, .bipush 32, 2), (173, .lshl, 1), (174, .aload_n 0, 1), (175, .iload_n 3, 1), (176, .iconst 2, 1), (177, .iadd, 1), (178, .iaload, 1), (179, .i2l, 1), (180, .ldc2_w 13, 3), (183, .land, 1), (184, .lor, 1), (185, .aload_n 0, 1), (186, .iload_n 3, 1), (187, .iconst 3, 1), (188, .iadd, 1), (189, .iaload, 1), (190, .invokevirtual 15, 3), (193, .aload_n 2, 1), (194, .aload_n 0, 1), (195, .iload_n 3, 1), (196, .iconst 1, 1), (197, .iadd, 1), (198, .iaload, 1), (199, .i2l, 1), (200, .bipush 32, 2), (202, .lshl, 1), (203, .aload_n 0, 1), (204, .iload_n 3, 1), (205, .iconst 2, 1), (206, .iadd, 1), (207, .iaload, 1)]
theorem oL_law_0 : okC cL_law eL_law_0 = true := by decide +kernel
theorem dL_law_0 : decode cL_law 0 = .ok (.new 7, 3) := dOf oL_law_0 0 rfl
theorem dL_law_3 : decode cL_law 3 = .ok (.dup, 1) := dOf oL_law_0 1 rfl
theorem dL_law_4 : decode cL_law 4 = .ok (.invokespecial 9, 3) := dOf oL_law_0 2 rfl
theorem dL_law_7 : decode cL_law 7 = .ok (.astore_n 1, 1) := dOf oL_law_0 3 rfl
theorem dL_law_8 : decode cL_law 8 = .ok (.new 10, 3) := dOf oL_law_0 4 rfl
theorem dL_law_11 : decode cL_law 11 = .ok (.dup, 1) := dOf oL_law_0 5 rfl
theorem dL_law_12 : decode cL_law 12 = .ok (.invokespecial 12, 3) := dOf oL_law_0 6 rfl
theorem dL_law_15 : decode cL_law 15 = .ok (.astore_n 2, 1) := dOf oL_law_0 7 rfl
theorem dL_law_16 : decode cL_law 16 = .ok (.iconst 0, 1) := dOf oL_law_0 8 rfl
theorem dL_law_17 : decode cL_law 17 = .ok (.istore_n 3, 1) := dOf oL_law_0 9 rfl
theorem dL_law_18 : decode cL_law 18 = .ok (.iload_n 3, 1) := dOf oL_law_0 10 rfl
theorem dL_law_19 : decode cL_law 19 = .ok (.aload_n 0, 1) := dOf oL_law_0 11 rfl
theorem dL_law_20 : decode cL_law 20 = .ok (.arraylength, 1) := dOf oL_law_0 12 rfl
theorem dL_law_21 : decode cL_law 21 = .ok (.bipush 6, 2) := dOf oL_law_0 13 rfl
theorem dL_law_23 : decode cL_law 23 = .ok (.isub, 1) := dOf oL_law_0 14 rfl
theorem dL_law_24 : decode cL_law 24 = .ok (.if_icmp .gt 994, 3) := dOf oL_law_0 15 rfl
theorem dL_law_27 : decode cL_law 27 = .ok (.aload_n 0, 1) := dOf oL_law_0 16 rfl
theorem dL_law_28 : decode cL_law 28 = .ok (.iload_n 3, 1) := dOf oL_law_0 17 rfl
theorem dL_law_29 : decode cL_law 29 = .ok (.iaload, 1) := dOf oL_law_0 18 rfl
theorem dL_law_30 : decode cL_law 30 = .ok (.bipush 31, 2) := dOf oL_law_0 19 rfl
theorem dL_law_32 : decode cL_law 32 = .ok (.iand, 1) := dOf oL_law_0 20 rfl
theorem dL_law_33 : decode cL_law 33 = .ok (.tableswitch 979 0 28 #[131, 194, 207, 260, 293, 326, 369, 392, 415, 439, 462, 495, 518, 531, 554, 567, 590, 613, 626, 659, 672, 685, 698, 731, 774, 797, 840, 863, 916], 131) := dOf oL_law_0 21 rfl
theorem dL_law_164 : decode cL_law 164 = .ok (.aload_n 1, 1) := dOf oL_law_0 22 rfl
theorem dL_law_165 : decode cL_law 165 = .ok (.aload_n 0, 1) := dOf oL_law_0 23 rfl
theorem dL_law_166 : decode cL_law 166 = .ok (.iload_n 3, 1) := dOf oL_law_0 24 rfl
theorem dL_law_167 : decode cL_law 167 = .ok (.iconst 1, 1) := dOf oL_law_0 25 rfl
theorem dL_law_168 : decode cL_law 168 = .ok (.iadd, 1) := dOf oL_law_0 26 rfl
theorem dL_law_169 : decode cL_law 169 = .ok (.iaload, 1) := dOf oL_law_0 27 rfl
theorem dL_law_170 : decode cL_law 170 = .ok (.i2l, 1) := dOf oL_law_0 28 rfl
theorem dL_law_171 : decode cL_law 171 = .ok (.bipush 32, 2) := dOf oL_law_0 29 rfl
theorem dL_law_173 : decode cL_law 173 = .ok (.lshl, 1) := dOf oL_law_0 30 rfl
theorem dL_law_174 : decode cL_law 174 = .ok (.aload_n 0, 1) := dOf oL_law_0 31 rfl
theorem dL_law_175 : decode cL_law 175 = .ok (.iload_n 3, 1) := dOf oL_law_0 32 rfl
theorem dL_law_176 : decode cL_law 176 = .ok (.iconst 2, 1) := dOf oL_law_0 33 rfl
theorem dL_law_177 : decode cL_law 177 = .ok (.iadd, 1) := dOf oL_law_0 34 rfl
theorem dL_law_178 : decode cL_law 178 = .ok (.iaload, 1) := dOf oL_law_0 35 rfl
theorem dL_law_179 : decode cL_law 179 = .ok (.i2l, 1) := dOf oL_law_0 36 rfl
theorem dL_law_180 : decode cL_law 180 = .ok (.ldc2_w 13, 3) := dOf oL_law_0 37 rfl
theorem dL_law_183 : decode cL_law 183 = .ok (.land, 1) := dOf oL_law_0 38 rfl
theorem dL_law_184 : decode cL_law 184 = .ok (.lor, 1) := dOf oL_law_0 39 rfl
theorem dL_law_185 : decode cL_law 185 = .ok (.aload_n 0, 1) := dOf oL_law_0 40 rfl
theorem dL_law_186 : decode cL_law 186 = .ok (.iload_n 3, 1) := dOf oL_law_0 41 rfl
theorem dL_law_187 : decode cL_law 187 = .ok (.iconst 3, 1) := dOf oL_law_0 42 rfl
theorem dL_law_188 : decode cL_law 188 = .ok (.iadd, 1) := dOf oL_law_0 43 rfl
theorem dL_law_189 : decode cL_law 189 = .ok (.iaload, 1) := dOf oL_law_0 44 rfl
theorem dL_law_190 : decode cL_law 190 = .ok (.invokevirtual 15, 3) := dOf oL_law_0 45 rfl
theorem dL_law_193 : decode cL_law 193 = .ok (.aload_n 2, 1) := dOf oL_law_0 46 rfl
theorem dL_law_194 : decode cL_law 194 = .ok (.aload_n 0, 1) := dOf oL_law_0 47 rfl
theorem dL_law_195 : decode cL_law 195 = .ok (.iload_n 3, 1) := dOf oL_law_0 48 rfl
theorem dL_law_196 : decode cL_law 196 = .ok (.iconst 1, 1) := dOf oL_law_0 49 rfl
theorem dL_law_197 : decode cL_law 197 = .ok (.iadd, 1) := dOf oL_law_0 50 rfl
theorem dL_law_198 : decode cL_law 198 = .ok (.iaload, 1) := dOf oL_law_0 51 rfl
theorem dL_law_199 : decode cL_law 199 = .ok (.i2l, 1) := dOf oL_law_0 52 rfl
theorem dL_law_200 : decode cL_law 200 = .ok (.bipush 32, 2) := dOf oL_law_0 53 rfl
theorem dL_law_202 : decode cL_law 202 = .ok (.lshl, 1) := dOf oL_law_0 54 rfl
theorem dL_law_203 : decode cL_law 203 = .ok (.aload_n 0, 1) := dOf oL_law_0 55 rfl
theorem dL_law_204 : decode cL_law 204 = .ok (.iload_n 3, 1) := dOf oL_law_0 56 rfl
theorem dL_law_205 : decode cL_law 205 = .ok (.iconst 2, 1) := dOf oL_law_0 57 rfl
theorem dL_law_206 : decode cL_law 206 = .ok (.iadd, 1) := dOf oL_law_0 58 rfl
theorem dL_law_207 : decode cL_law 207 = .ok (.iaload, 1) := dOf oL_law_0 59 rfl
def eL_law_1 : List (Nat × Instr × Nat) := [(208, .i2l, 1), (209, .ldc2_w 13, 3), (212, .land, 1), (213, .lor, 1), (214, .aload_n 0, 1), (215, .iload_n 3, 1), (216, .iconst 3, 1), (217, .iadd, 1), (218, .iaload, 1), (219, .invokevirtual 19, 3), (222, .if_icmp .eq 790, 3), (225, .iconst 0, 1), (226, .ireturn, 1), (227, .aload_n 1, 1), (228, .invokevirtual 20, 3), (231, .aload_n 2, 1), (232, .invokevirtual 24, 3), (235, .if_icmp .eq 777, 3), (238, .iconst 0, 1), (239, .ireturn, 1), (240, .aload_n 1, 1), (241, .aload_n 0, 1), (242, .iload_n 3, 1), (243, .iconst 1, 1), (244, .iadd, 1), (245, .iaload, 1), (246, .aload_n 0, 1), (247, .iload_n 3, 1), (248, .iconst 2, 1), (249, .iadd, 1), (250, .iaload, 1), (251, .aload_n 0, 1), (252, .iload_n 3, 1), (253, .iconst 3, 1), (254, .iadd, 1), (255, .iaload, 1), (256, .aload_n 0, 1), (257, .iload_n 3, 1), (258, .iconst 4, 1), (259, .iadd, 1), (260, .iaload, 1), (261, .invokevirtual 25, 3), (264, .aload_n 2, 1), (265, .aload_n 0, 1), (266, .iload_n 3, 1), (267, .iconst 1, 1), (268, .iadd, 1), (269, .iaload, 1), (270, .aload_n 0, 1), (271, .iload_n 3, 1), (272, .iconst 2, 1), (273, .iadd, 1), (274, .iaload, 1), (275, .aload_n 0, 1), (276, .iload_n 3, 1), (277, .iconst 3, 1), (278, .iadd, 1), (279, .iaload, 1), (280, .aload_n 0, 1), (281, .iload_n 3, 1)]
theorem oL_law_1 : okC cL_law eL_law_1 = true := by decide +kernel
theorem dL_law_208 : decode cL_law 208 = .ok (.i2l, 1) := dOf oL_law_1 0 rfl
theorem dL_law_209 : decode cL_law 209 = .ok (.ldc2_w 13, 3) := dOf oL_law_1 1 rfl
theorem dL_law_212 : decode cL_law 212 = .ok (.land, 1) := dOf oL_law_1 2 rfl
theorem dL_law_213 : decode cL_law 213 = .ok (.lor, 1) := dOf oL_law_1 3 rfl
theorem dL_law_214 : decode cL_law 214 = .ok (.aload_n 0, 1) := dOf oL_law_1 4 rfl
theorem dL_law_215 : decode cL_law 215 = .ok (.iload_n 3, 1) := dOf oL_law_1 5 rfl
theorem dL_law_216 : decode cL_law 216 = .ok (.iconst 3, 1) := dOf oL_law_1 6 rfl
theorem dL_law_217 : decode cL_law 217 = .ok (.iadd, 1) := dOf oL_law_1 7 rfl
theorem dL_law_218 : decode cL_law 218 = .ok (.iaload, 1) := dOf oL_law_1 8 rfl
theorem dL_law_219 : decode cL_law 219 = .ok (.invokevirtual 19, 3) := dOf oL_law_1 9 rfl
theorem dL_law_222 : decode cL_law 222 = .ok (.if_icmp .eq 790, 3) := dOf oL_law_1 10 rfl
theorem dL_law_225 : decode cL_law 225 = .ok (.iconst 0, 1) := dOf oL_law_1 11 rfl
theorem dL_law_226 : decode cL_law 226 = .ok (.ireturn, 1) := dOf oL_law_1 12 rfl
theorem dL_law_227 : decode cL_law 227 = .ok (.aload_n 1, 1) := dOf oL_law_1 13 rfl
theorem dL_law_228 : decode cL_law 228 = .ok (.invokevirtual 20, 3) := dOf oL_law_1 14 rfl
theorem dL_law_231 : decode cL_law 231 = .ok (.aload_n 2, 1) := dOf oL_law_1 15 rfl
theorem dL_law_232 : decode cL_law 232 = .ok (.invokevirtual 24, 3) := dOf oL_law_1 16 rfl
theorem dL_law_235 : decode cL_law 235 = .ok (.if_icmp .eq 777, 3) := dOf oL_law_1 17 rfl
theorem dL_law_238 : decode cL_law 238 = .ok (.iconst 0, 1) := dOf oL_law_1 18 rfl
theorem dL_law_239 : decode cL_law 239 = .ok (.ireturn, 1) := dOf oL_law_1 19 rfl
theorem dL_law_240 : decode cL_law 240 = .ok (.aload_n 1, 1) := dOf oL_law_1 20 rfl
theorem dL_law_241 : decode cL_law 241 = .ok (.aload_n 0, 1) := dOf oL_law_1 21 rfl
theorem dL_law_242 : decode cL_law 242 = .ok (.iload_n 3, 1) := dOf oL_law_1 22 rfl
theorem dL_law_243 : decode cL_law 243 = .ok (.iconst 1, 1) := dOf oL_law_1 23 rfl
theorem dL_law_244 : decode cL_law 244 = .ok (.iadd, 1) := dOf oL_law_1 24 rfl
theorem dL_law_245 : decode cL_law 245 = .ok (.iaload, 1) := dOf oL_law_1 25 rfl
theorem dL_law_246 : decode cL_law 246 = .ok (.aload_n 0, 1) := dOf oL_law_1 26 rfl
theorem dL_law_247 : decode cL_law 247 = .ok (.iload_n 3, 1) := dOf oL_law_1 27 rfl
theorem dL_law_248 : decode cL_law 248 = .ok (.iconst 2, 1) := dOf oL_law_1 28 rfl
theorem dL_law_249 : decode cL_law 249 = .ok (.iadd, 1) := dOf oL_law_1 29 rfl
theorem dL_law_250 : decode cL_law 250 = .ok (.iaload, 1) := dOf oL_law_1 30 rfl
theorem dL_law_251 : decode cL_law 251 = .ok (.aload_n 0, 1) := dOf oL_law_1 31 rfl
theorem dL_law_252 : decode cL_law 252 = .ok (.iload_n 3, 1) := dOf oL_law_1 32 rfl
theorem dL_law_253 : decode cL_law 253 = .ok (.iconst 3, 1) := dOf oL_law_1 33 rfl
theorem dL_law_254 : decode cL_law 254 = .ok (.iadd, 1) := dOf oL_law_1 34 rfl
theorem dL_law_255 : decode cL_law 255 = .ok (.iaload, 1) := dOf oL_law_1 35 rfl
theorem dL_law_256 : decode cL_law 256 = .ok (.aload_n 0, 1) := dOf oL_law_1 36 rfl
theorem dL_law_257 : decode cL_law 257 = .ok (.iload_n 3, 1) := dOf oL_law_1 37 rfl
theorem dL_law_258 : decode cL_law 258 = .ok (.iconst 4, 1) := dOf oL_law_1 38 rfl
theorem dL_law_259 : decode cL_law 259 = .ok (.iadd, 1) := dOf oL_law_1 39 rfl
theorem dL_law_260 : decode cL_law 260 = .ok (.iaload, 1) := dOf oL_law_1 40 rfl
theorem dL_law_261 : decode cL_law 261 = .ok (.invokevirtual 25, 3) := dOf oL_law_1 41 rfl
theorem dL_law_264 : decode cL_law 264 = .ok (.aload_n 2, 1) := dOf oL_law_1 42 rfl
theorem dL_law_265 : decode cL_law 265 = .ok (.aload_n 0, 1) := dOf oL_law_1 43 rfl
theorem dL_law_266 : decode cL_law 266 = .ok (.iload_n 3, 1) := dOf oL_law_1 44 rfl
theorem dL_law_267 : decode cL_law 267 = .ok (.iconst 1, 1) := dOf oL_law_1 45 rfl
theorem dL_law_268 : decode cL_law 268 = .ok (.iadd, 1) := dOf oL_law_1 46 rfl
theorem dL_law_269 : decode cL_law 269 = .ok (.iaload, 1) := dOf oL_law_1 47 rfl
theorem dL_law_270 : decode cL_law 270 = .ok (.aload_n 0, 1) := dOf oL_law_1 48 rfl
theorem dL_law_271 : decode cL_law 271 = .ok (.iload_n 3, 1) := dOf oL_law_1 49 rfl
theorem dL_law_272 : decode cL_law 272 = .ok (.iconst 2, 1) := dOf oL_law_1 50 rfl
theorem dL_law_273 : decode cL_law 273 = .ok (.iadd, 1) := dOf oL_law_1 51 rfl
theorem dL_law_274 : decode cL_law 274 = .ok (.iaload, 1) := dOf oL_law_1 52 rfl
theorem dL_law_275 : decode cL_law 275 = .ok (.aload_n 0, 1) := dOf oL_law_1 53 rfl
theorem dL_law_276 : decode cL_law 276 = .ok (.iload_n 3, 1) := dOf oL_law_1 54 rfl
theorem dL_law_277 : decode cL_law 277 = .ok (.iconst 3, 1) := dOf oL_law_1 55 rfl
theorem dL_law_278 : decode cL_law 278 = .ok (.iadd, 1) := dOf oL_law_1 56 rfl
theorem dL_law_279 : decode cL_law 279 = .ok (.iaload, 1) := dOf oL_law_1 57 rfl
theorem dL_law_280 : decode cL_law 280 = .ok (.aload_n 0, 1) := dOf oL_law_1 58 rfl
theorem dL_law_281 : decode cL_law 281 = .ok (.iload_n 3, 1) := dOf oL_law_1 59 rfl
def eL_law_2 : List (Nat × Instr × Nat) := [(282, .iconst 4, 1), (283, .iadd, 1), (284, .iaload, 1), (285, .invokevirtual 29, 3), (288, .if_icmp .eq 724, 3), (291, .iconst 0, 1), (292, .ireturn, 1), (293, .aload_n 1, 1), (294, .aload_n 0, 1), (295, .iload_n 3, 1), (296, .iconst 1, 1), (297, .iadd, 1), (298, .iaload, 1), (299, .aload_n 0, 1), (300, .iload_n 3, 1), (301, .iconst 2, 1), (302, .iadd, 1), (303, .iaload, 1), (304, .invokevirtual 30, 3), (307, .aload_n 2, 1), (308, .aload_n 0, 1), (309, .iload_n 3, 1), (310, .iconst 1, 1), (311, .iadd, 1), (312, .iaload, 1), (313, .aload_n 0, 1), (314, .iload_n 3, 1), (315, .iconst 2, 1), (316, .iadd, 1), (317, .iaload, 1), (318, .invokevirtual 34, 3), (321, .if_icmp .eq 691, 3), (324, .iconst 0, 1), (325, .ireturn, 1), (326, .aload_n 1, 1), (327, .aload_n 0, 1), (328, .iload_n 3, 1), (329, .iconst 1, 1), (330, .iadd, 1), (331, .iaload, 1), (332, .aload_n 0, 1), (333, .iload_n 3, 1), (334, .iconst 2, 1), (335, .iadd, 1), (336, .iaload, 1), (337, .invokevirtual 35, 3), (340, .aload_n 2, 1), (341, .aload_n 0, 1), (342, .iload_n 3, 1), (343, .iconst 1, 1), (344, .iadd, 1), (345, .iaload, 1), (346, .aload_n 0, 1), (347, .iload_n 3, 1), (348, .iconst 2, 1), (349, .iadd, 1), (350, .iaload, 1), (351, .invokevirtual 38, 3), (354, .if_icmp .eq 658, 3), (357, .iconst 0, 1)]
theorem oL_law_2 : okC cL_law eL_law_2 = true := by decide +kernel
theorem dL_law_282 : decode cL_law 282 = .ok (.iconst 4, 1) := dOf oL_law_2 0 rfl
theorem dL_law_283 : decode cL_law 283 = .ok (.iadd, 1) := dOf oL_law_2 1 rfl
theorem dL_law_284 : decode cL_law 284 = .ok (.iaload, 1) := dOf oL_law_2 2 rfl
theorem dL_law_285 : decode cL_law 285 = .ok (.invokevirtual 29, 3) := dOf oL_law_2 3 rfl
theorem dL_law_288 : decode cL_law 288 = .ok (.if_icmp .eq 724, 3) := dOf oL_law_2 4 rfl
theorem dL_law_291 : decode cL_law 291 = .ok (.iconst 0, 1) := dOf oL_law_2 5 rfl
theorem dL_law_292 : decode cL_law 292 = .ok (.ireturn, 1) := dOf oL_law_2 6 rfl
theorem dL_law_293 : decode cL_law 293 = .ok (.aload_n 1, 1) := dOf oL_law_2 7 rfl
theorem dL_law_294 : decode cL_law 294 = .ok (.aload_n 0, 1) := dOf oL_law_2 8 rfl
theorem dL_law_295 : decode cL_law 295 = .ok (.iload_n 3, 1) := dOf oL_law_2 9 rfl
theorem dL_law_296 : decode cL_law 296 = .ok (.iconst 1, 1) := dOf oL_law_2 10 rfl
theorem dL_law_297 : decode cL_law 297 = .ok (.iadd, 1) := dOf oL_law_2 11 rfl
theorem dL_law_298 : decode cL_law 298 = .ok (.iaload, 1) := dOf oL_law_2 12 rfl
theorem dL_law_299 : decode cL_law 299 = .ok (.aload_n 0, 1) := dOf oL_law_2 13 rfl
theorem dL_law_300 : decode cL_law 300 = .ok (.iload_n 3, 1) := dOf oL_law_2 14 rfl
theorem dL_law_301 : decode cL_law 301 = .ok (.iconst 2, 1) := dOf oL_law_2 15 rfl
theorem dL_law_302 : decode cL_law 302 = .ok (.iadd, 1) := dOf oL_law_2 16 rfl
theorem dL_law_303 : decode cL_law 303 = .ok (.iaload, 1) := dOf oL_law_2 17 rfl
theorem dL_law_304 : decode cL_law 304 = .ok (.invokevirtual 30, 3) := dOf oL_law_2 18 rfl
theorem dL_law_307 : decode cL_law 307 = .ok (.aload_n 2, 1) := dOf oL_law_2 19 rfl
theorem dL_law_308 : decode cL_law 308 = .ok (.aload_n 0, 1) := dOf oL_law_2 20 rfl
theorem dL_law_309 : decode cL_law 309 = .ok (.iload_n 3, 1) := dOf oL_law_2 21 rfl
theorem dL_law_310 : decode cL_law 310 = .ok (.iconst 1, 1) := dOf oL_law_2 22 rfl
theorem dL_law_311 : decode cL_law 311 = .ok (.iadd, 1) := dOf oL_law_2 23 rfl
theorem dL_law_312 : decode cL_law 312 = .ok (.iaload, 1) := dOf oL_law_2 24 rfl
theorem dL_law_313 : decode cL_law 313 = .ok (.aload_n 0, 1) := dOf oL_law_2 25 rfl
theorem dL_law_314 : decode cL_law 314 = .ok (.iload_n 3, 1) := dOf oL_law_2 26 rfl
theorem dL_law_315 : decode cL_law 315 = .ok (.iconst 2, 1) := dOf oL_law_2 27 rfl
theorem dL_law_316 : decode cL_law 316 = .ok (.iadd, 1) := dOf oL_law_2 28 rfl
theorem dL_law_317 : decode cL_law 317 = .ok (.iaload, 1) := dOf oL_law_2 29 rfl
theorem dL_law_318 : decode cL_law 318 = .ok (.invokevirtual 34, 3) := dOf oL_law_2 30 rfl
theorem dL_law_321 : decode cL_law 321 = .ok (.if_icmp .eq 691, 3) := dOf oL_law_2 31 rfl
theorem dL_law_324 : decode cL_law 324 = .ok (.iconst 0, 1) := dOf oL_law_2 32 rfl
theorem dL_law_325 : decode cL_law 325 = .ok (.ireturn, 1) := dOf oL_law_2 33 rfl
theorem dL_law_326 : decode cL_law 326 = .ok (.aload_n 1, 1) := dOf oL_law_2 34 rfl
theorem dL_law_327 : decode cL_law 327 = .ok (.aload_n 0, 1) := dOf oL_law_2 35 rfl
theorem dL_law_328 : decode cL_law 328 = .ok (.iload_n 3, 1) := dOf oL_law_2 36 rfl
theorem dL_law_329 : decode cL_law 329 = .ok (.iconst 1, 1) := dOf oL_law_2 37 rfl
theorem dL_law_330 : decode cL_law 330 = .ok (.iadd, 1) := dOf oL_law_2 38 rfl
theorem dL_law_331 : decode cL_law 331 = .ok (.iaload, 1) := dOf oL_law_2 39 rfl
theorem dL_law_332 : decode cL_law 332 = .ok (.aload_n 0, 1) := dOf oL_law_2 40 rfl
theorem dL_law_333 : decode cL_law 333 = .ok (.iload_n 3, 1) := dOf oL_law_2 41 rfl
theorem dL_law_334 : decode cL_law 334 = .ok (.iconst 2, 1) := dOf oL_law_2 42 rfl
theorem dL_law_335 : decode cL_law 335 = .ok (.iadd, 1) := dOf oL_law_2 43 rfl
theorem dL_law_336 : decode cL_law 336 = .ok (.iaload, 1) := dOf oL_law_2 44 rfl
theorem dL_law_337 : decode cL_law 337 = .ok (.invokevirtual 35, 3) := dOf oL_law_2 45 rfl
theorem dL_law_340 : decode cL_law 340 = .ok (.aload_n 2, 1) := dOf oL_law_2 46 rfl
theorem dL_law_341 : decode cL_law 341 = .ok (.aload_n 0, 1) := dOf oL_law_2 47 rfl
theorem dL_law_342 : decode cL_law 342 = .ok (.iload_n 3, 1) := dOf oL_law_2 48 rfl
theorem dL_law_343 : decode cL_law 343 = .ok (.iconst 1, 1) := dOf oL_law_2 49 rfl
theorem dL_law_344 : decode cL_law 344 = .ok (.iadd, 1) := dOf oL_law_2 50 rfl
theorem dL_law_345 : decode cL_law 345 = .ok (.iaload, 1) := dOf oL_law_2 51 rfl
theorem dL_law_346 : decode cL_law 346 = .ok (.aload_n 0, 1) := dOf oL_law_2 52 rfl
theorem dL_law_347 : decode cL_law 347 = .ok (.iload_n 3, 1) := dOf oL_law_2 53 rfl
theorem dL_law_348 : decode cL_law 348 = .ok (.iconst 2, 1) := dOf oL_law_2 54 rfl
theorem dL_law_349 : decode cL_law 349 = .ok (.iadd, 1) := dOf oL_law_2 55 rfl
theorem dL_law_350 : decode cL_law 350 = .ok (.iaload, 1) := dOf oL_law_2 56 rfl
theorem dL_law_351 : decode cL_law 351 = .ok (.invokevirtual 38, 3) := dOf oL_law_2 57 rfl
theorem dL_law_354 : decode cL_law 354 = .ok (.if_icmp .eq 658, 3) := dOf oL_law_2 58 rfl
theorem dL_law_357 : decode cL_law 357 = .ok (.iconst 0, 1) := dOf oL_law_2 59 rfl
def eL_law_3 : List (Nat × Instr × Nat) := [(358, .ireturn, 1), (359, .aload_n 1, 1), (360, .aload_n 0, 1), (361, .iload_n 3, 1), (362, .iconst 1, 1), (363, .iadd, 1), (364, .iaload, 1), (365, .aload_n 0, 1), (366, .iload_n 3, 1), (367, .iconst 2, 1), (368, .iadd, 1), (369, .iaload, 1), (370, .aload_n 0, 1), (371, .iload_n 3, 1), (372, .iconst 3, 1), (373, .iadd, 1), (374, .iaload, 1), (375, .invokevirtual 39, 3), (378, .aload_n 2, 1), (379, .aload_n 0, 1), (380, .iload_n 3, 1), (381, .iconst 1, 1), (382, .iadd, 1), (383, .iaload, 1), (384, .aload_n 0, 1), (385, .iload_n 3, 1), (386, .iconst 2, 1), (387, .iadd, 1), (388, .iaload, 1), (389, .aload_n 0, 1), (390, .iload_n 3, 1), (391, .iconst 3, 1), (392, .iadd, 1), (393, .iaload, 1), (394, .invokevirtual 43, 3), (397, .if_icmp .eq 615, 3), (400, .iconst 0, 1), (401, .ireturn, 1), (402, .aload_n 1, 1), (403, .aload_n 0, 1), (404, .iload_n 3, 1), (405, .iconst 1, 1), (406, .iadd, 1), (407, .iaload, 1), (408, .invokevirtual 44, 3), (411, .aload_n 2, 1), (412, .aload_n 0, 1), (413, .iload_n 3, 1), (414, .iconst 1, 1), (415, .iadd, 1), (416, .iaload, 1), (417, .invokevirtual 48, 3), (420, .if_icmp .eq 592, 3), (423, .iconst 0, 1), (424, .ireturn, 1), (425, .aload_n 1, 1), (426, .aload_n 0, 1), (427, .iload_n 3, 1), (428, .iconst 1, 1), (429, .iadd, 1)]
theorem oL_law_3 : okC cL_law eL_law_3 = true := by decide +kernel
theorem dL_law_358 : decode cL_law 358 = .ok (.ireturn, 1) := dOf oL_law_3 0 rfl
theorem dL_law_359 : decode cL_law 359 = .ok (.aload_n 1, 1) := dOf oL_law_3 1 rfl
theorem dL_law_360 : decode cL_law 360 = .ok (.aload_n 0, 1) := dOf oL_law_3 2 rfl
theorem dL_law_361 : decode cL_law 361 = .ok (.iload_n 3, 1) := dOf oL_law_3 3 rfl
theorem dL_law_362 : decode cL_law 362 = .ok (.iconst 1, 1) := dOf oL_law_3 4 rfl
theorem dL_law_363 : decode cL_law 363 = .ok (.iadd, 1) := dOf oL_law_3 5 rfl
theorem dL_law_364 : decode cL_law 364 = .ok (.iaload, 1) := dOf oL_law_3 6 rfl
theorem dL_law_365 : decode cL_law 365 = .ok (.aload_n 0, 1) := dOf oL_law_3 7 rfl
theorem dL_law_366 : decode cL_law 366 = .ok (.iload_n 3, 1) := dOf oL_law_3 8 rfl
theorem dL_law_367 : decode cL_law 367 = .ok (.iconst 2, 1) := dOf oL_law_3 9 rfl
theorem dL_law_368 : decode cL_law 368 = .ok (.iadd, 1) := dOf oL_law_3 10 rfl
theorem dL_law_369 : decode cL_law 369 = .ok (.iaload, 1) := dOf oL_law_3 11 rfl
theorem dL_law_370 : decode cL_law 370 = .ok (.aload_n 0, 1) := dOf oL_law_3 12 rfl
theorem dL_law_371 : decode cL_law 371 = .ok (.iload_n 3, 1) := dOf oL_law_3 13 rfl
theorem dL_law_372 : decode cL_law 372 = .ok (.iconst 3, 1) := dOf oL_law_3 14 rfl
theorem dL_law_373 : decode cL_law 373 = .ok (.iadd, 1) := dOf oL_law_3 15 rfl
theorem dL_law_374 : decode cL_law 374 = .ok (.iaload, 1) := dOf oL_law_3 16 rfl
theorem dL_law_375 : decode cL_law 375 = .ok (.invokevirtual 39, 3) := dOf oL_law_3 17 rfl
theorem dL_law_378 : decode cL_law 378 = .ok (.aload_n 2, 1) := dOf oL_law_3 18 rfl
theorem dL_law_379 : decode cL_law 379 = .ok (.aload_n 0, 1) := dOf oL_law_3 19 rfl
theorem dL_law_380 : decode cL_law 380 = .ok (.iload_n 3, 1) := dOf oL_law_3 20 rfl
theorem dL_law_381 : decode cL_law 381 = .ok (.iconst 1, 1) := dOf oL_law_3 21 rfl
theorem dL_law_382 : decode cL_law 382 = .ok (.iadd, 1) := dOf oL_law_3 22 rfl
theorem dL_law_383 : decode cL_law 383 = .ok (.iaload, 1) := dOf oL_law_3 23 rfl
theorem dL_law_384 : decode cL_law 384 = .ok (.aload_n 0, 1) := dOf oL_law_3 24 rfl
theorem dL_law_385 : decode cL_law 385 = .ok (.iload_n 3, 1) := dOf oL_law_3 25 rfl
theorem dL_law_386 : decode cL_law 386 = .ok (.iconst 2, 1) := dOf oL_law_3 26 rfl
theorem dL_law_387 : decode cL_law 387 = .ok (.iadd, 1) := dOf oL_law_3 27 rfl
theorem dL_law_388 : decode cL_law 388 = .ok (.iaload, 1) := dOf oL_law_3 28 rfl
theorem dL_law_389 : decode cL_law 389 = .ok (.aload_n 0, 1) := dOf oL_law_3 29 rfl
theorem dL_law_390 : decode cL_law 390 = .ok (.iload_n 3, 1) := dOf oL_law_3 30 rfl
theorem dL_law_391 : decode cL_law 391 = .ok (.iconst 3, 1) := dOf oL_law_3 31 rfl
theorem dL_law_392 : decode cL_law 392 = .ok (.iadd, 1) := dOf oL_law_3 32 rfl
theorem dL_law_393 : decode cL_law 393 = .ok (.iaload, 1) := dOf oL_law_3 33 rfl
theorem dL_law_394 : decode cL_law 394 = .ok (.invokevirtual 43, 3) := dOf oL_law_3 34 rfl
theorem dL_law_397 : decode cL_law 397 = .ok (.if_icmp .eq 615, 3) := dOf oL_law_3 35 rfl
theorem dL_law_400 : decode cL_law 400 = .ok (.iconst 0, 1) := dOf oL_law_3 36 rfl
theorem dL_law_401 : decode cL_law 401 = .ok (.ireturn, 1) := dOf oL_law_3 37 rfl
theorem dL_law_402 : decode cL_law 402 = .ok (.aload_n 1, 1) := dOf oL_law_3 38 rfl
theorem dL_law_403 : decode cL_law 403 = .ok (.aload_n 0, 1) := dOf oL_law_3 39 rfl
theorem dL_law_404 : decode cL_law 404 = .ok (.iload_n 3, 1) := dOf oL_law_3 40 rfl
theorem dL_law_405 : decode cL_law 405 = .ok (.iconst 1, 1) := dOf oL_law_3 41 rfl
theorem dL_law_406 : decode cL_law 406 = .ok (.iadd, 1) := dOf oL_law_3 42 rfl
theorem dL_law_407 : decode cL_law 407 = .ok (.iaload, 1) := dOf oL_law_3 43 rfl
theorem dL_law_408 : decode cL_law 408 = .ok (.invokevirtual 44, 3) := dOf oL_law_3 44 rfl
theorem dL_law_411 : decode cL_law 411 = .ok (.aload_n 2, 1) := dOf oL_law_3 45 rfl
theorem dL_law_412 : decode cL_law 412 = .ok (.aload_n 0, 1) := dOf oL_law_3 46 rfl
theorem dL_law_413 : decode cL_law 413 = .ok (.iload_n 3, 1) := dOf oL_law_3 47 rfl
theorem dL_law_414 : decode cL_law 414 = .ok (.iconst 1, 1) := dOf oL_law_3 48 rfl
theorem dL_law_415 : decode cL_law 415 = .ok (.iadd, 1) := dOf oL_law_3 49 rfl
theorem dL_law_416 : decode cL_law 416 = .ok (.iaload, 1) := dOf oL_law_3 50 rfl
theorem dL_law_417 : decode cL_law 417 = .ok (.invokevirtual 48, 3) := dOf oL_law_3 51 rfl
theorem dL_law_420 : decode cL_law 420 = .ok (.if_icmp .eq 592, 3) := dOf oL_law_3 52 rfl
theorem dL_law_423 : decode cL_law 423 = .ok (.iconst 0, 1) := dOf oL_law_3 53 rfl
theorem dL_law_424 : decode cL_law 424 = .ok (.ireturn, 1) := dOf oL_law_3 54 rfl
theorem dL_law_425 : decode cL_law 425 = .ok (.aload_n 1, 1) := dOf oL_law_3 55 rfl
theorem dL_law_426 : decode cL_law 426 = .ok (.aload_n 0, 1) := dOf oL_law_3 56 rfl
theorem dL_law_427 : decode cL_law 427 = .ok (.iload_n 3, 1) := dOf oL_law_3 57 rfl
theorem dL_law_428 : decode cL_law 428 = .ok (.iconst 1, 1) := dOf oL_law_3 58 rfl
theorem dL_law_429 : decode cL_law 429 = .ok (.iadd, 1) := dOf oL_law_3 59 rfl
def eL_law_4 : List (Nat × Instr × Nat) := [(430, .iaload, 1), (431, .invokevirtual 49, 3), (434, .aload_n 2, 1), (435, .aload_n 0, 1), (436, .iload_n 3, 1), (437, .iconst 1, 1), (438, .iadd, 1), (439, .iaload, 1), (440, .invokevirtual 52, 3), (443, .if_icmp .eq 569, 3), (446, .iconst 0, 1), (447, .ireturn, 1), (448, .aload_n 1, 1), (449, .aload_n 0, 1), (450, .iload_n 3, 1), (451, .iconst 1, 1), (452, .iadd, 1), (453, .iaload, 1), (454, .invokevirtual 53, 3), (457, .aload_n 2, 1), (458, .aload_n 0, 1), (459, .iload_n 3, 1), (460, .iconst 1, 1), (461, .iadd, 1), (462, .iaload, 1), (463, .invokevirtual 57, 3), (466, .lcmp, 1), (467, .ifCond .eq 545, 3), (470, .iconst 0, 1), (471, .ireturn, 1), (472, .aload_n 1, 1), (473, .aload_n 0, 1), (474, .iload_n 3, 1), (475, .iconst 1, 1), (476, .iadd, 1), (477, .iaload, 1), (478, .invokevirtual 58, 3), (481, .aload_n 2, 1), (482, .aload_n 0, 1), (483, .iload_n 3, 1), (484, .iconst 1, 1), (485, .iadd, 1), (486, .iaload, 1), (487, .invokevirtual 61, 3), (490, .if_icmp .eq 522, 3), (493, .iconst 0, 1), (494, .ireturn, 1), (495, .aload_n 1, 1), (496, .aload_n 0, 1), (497, .iload_n 3, 1), (498, .iconst 1, 1), (499, .iadd, 1), (500, .iaload, 1), (501, .aload_n 0, 1), (502, .iload_n 3, 1), (503, .iconst 2, 1), (504, .iadd, 1), (505, .iaload, 1), (506, .invokevirtual 62, 3), (509, .aload_n 2, 1)]
theorem oL_law_4 : okC cL_law eL_law_4 = true := by decide +kernel
theorem dL_law_430 : decode cL_law 430 = .ok (.iaload, 1) := dOf oL_law_4 0 rfl
theorem dL_law_431 : decode cL_law 431 = .ok (.invokevirtual 49, 3) := dOf oL_law_4 1 rfl
theorem dL_law_434 : decode cL_law 434 = .ok (.aload_n 2, 1) := dOf oL_law_4 2 rfl
theorem dL_law_435 : decode cL_law 435 = .ok (.aload_n 0, 1) := dOf oL_law_4 3 rfl
theorem dL_law_436 : decode cL_law 436 = .ok (.iload_n 3, 1) := dOf oL_law_4 4 rfl
theorem dL_law_437 : decode cL_law 437 = .ok (.iconst 1, 1) := dOf oL_law_4 5 rfl
theorem dL_law_438 : decode cL_law 438 = .ok (.iadd, 1) := dOf oL_law_4 6 rfl
theorem dL_law_439 : decode cL_law 439 = .ok (.iaload, 1) := dOf oL_law_4 7 rfl
theorem dL_law_440 : decode cL_law 440 = .ok (.invokevirtual 52, 3) := dOf oL_law_4 8 rfl
theorem dL_law_443 : decode cL_law 443 = .ok (.if_icmp .eq 569, 3) := dOf oL_law_4 9 rfl
theorem dL_law_446 : decode cL_law 446 = .ok (.iconst 0, 1) := dOf oL_law_4 10 rfl
theorem dL_law_447 : decode cL_law 447 = .ok (.ireturn, 1) := dOf oL_law_4 11 rfl
theorem dL_law_448 : decode cL_law 448 = .ok (.aload_n 1, 1) := dOf oL_law_4 12 rfl
theorem dL_law_449 : decode cL_law 449 = .ok (.aload_n 0, 1) := dOf oL_law_4 13 rfl
theorem dL_law_450 : decode cL_law 450 = .ok (.iload_n 3, 1) := dOf oL_law_4 14 rfl
theorem dL_law_451 : decode cL_law 451 = .ok (.iconst 1, 1) := dOf oL_law_4 15 rfl
theorem dL_law_452 : decode cL_law 452 = .ok (.iadd, 1) := dOf oL_law_4 16 rfl
theorem dL_law_453 : decode cL_law 453 = .ok (.iaload, 1) := dOf oL_law_4 17 rfl
theorem dL_law_454 : decode cL_law 454 = .ok (.invokevirtual 53, 3) := dOf oL_law_4 18 rfl
theorem dL_law_457 : decode cL_law 457 = .ok (.aload_n 2, 1) := dOf oL_law_4 19 rfl
theorem dL_law_458 : decode cL_law 458 = .ok (.aload_n 0, 1) := dOf oL_law_4 20 rfl
theorem dL_law_459 : decode cL_law 459 = .ok (.iload_n 3, 1) := dOf oL_law_4 21 rfl
theorem dL_law_460 : decode cL_law 460 = .ok (.iconst 1, 1) := dOf oL_law_4 22 rfl
theorem dL_law_461 : decode cL_law 461 = .ok (.iadd, 1) := dOf oL_law_4 23 rfl
theorem dL_law_462 : decode cL_law 462 = .ok (.iaload, 1) := dOf oL_law_4 24 rfl
theorem dL_law_463 : decode cL_law 463 = .ok (.invokevirtual 57, 3) := dOf oL_law_4 25 rfl
theorem dL_law_466 : decode cL_law 466 = .ok (.lcmp, 1) := dOf oL_law_4 26 rfl
theorem dL_law_467 : decode cL_law 467 = .ok (.ifCond .eq 545, 3) := dOf oL_law_4 27 rfl
theorem dL_law_470 : decode cL_law 470 = .ok (.iconst 0, 1) := dOf oL_law_4 28 rfl
theorem dL_law_471 : decode cL_law 471 = .ok (.ireturn, 1) := dOf oL_law_4 29 rfl
theorem dL_law_472 : decode cL_law 472 = .ok (.aload_n 1, 1) := dOf oL_law_4 30 rfl
theorem dL_law_473 : decode cL_law 473 = .ok (.aload_n 0, 1) := dOf oL_law_4 31 rfl
theorem dL_law_474 : decode cL_law 474 = .ok (.iload_n 3, 1) := dOf oL_law_4 32 rfl
theorem dL_law_475 : decode cL_law 475 = .ok (.iconst 1, 1) := dOf oL_law_4 33 rfl
theorem dL_law_476 : decode cL_law 476 = .ok (.iadd, 1) := dOf oL_law_4 34 rfl
theorem dL_law_477 : decode cL_law 477 = .ok (.iaload, 1) := dOf oL_law_4 35 rfl
theorem dL_law_478 : decode cL_law 478 = .ok (.invokevirtual 58, 3) := dOf oL_law_4 36 rfl
theorem dL_law_481 : decode cL_law 481 = .ok (.aload_n 2, 1) := dOf oL_law_4 37 rfl
theorem dL_law_482 : decode cL_law 482 = .ok (.aload_n 0, 1) := dOf oL_law_4 38 rfl
theorem dL_law_483 : decode cL_law 483 = .ok (.iload_n 3, 1) := dOf oL_law_4 39 rfl
theorem dL_law_484 : decode cL_law 484 = .ok (.iconst 1, 1) := dOf oL_law_4 40 rfl
theorem dL_law_485 : decode cL_law 485 = .ok (.iadd, 1) := dOf oL_law_4 41 rfl
theorem dL_law_486 : decode cL_law 486 = .ok (.iaload, 1) := dOf oL_law_4 42 rfl
theorem dL_law_487 : decode cL_law 487 = .ok (.invokevirtual 61, 3) := dOf oL_law_4 43 rfl
theorem dL_law_490 : decode cL_law 490 = .ok (.if_icmp .eq 522, 3) := dOf oL_law_4 44 rfl
theorem dL_law_493 : decode cL_law 493 = .ok (.iconst 0, 1) := dOf oL_law_4 45 rfl
theorem dL_law_494 : decode cL_law 494 = .ok (.ireturn, 1) := dOf oL_law_4 46 rfl
theorem dL_law_495 : decode cL_law 495 = .ok (.aload_n 1, 1) := dOf oL_law_4 47 rfl
theorem dL_law_496 : decode cL_law 496 = .ok (.aload_n 0, 1) := dOf oL_law_4 48 rfl
theorem dL_law_497 : decode cL_law 497 = .ok (.iload_n 3, 1) := dOf oL_law_4 49 rfl
theorem dL_law_498 : decode cL_law 498 = .ok (.iconst 1, 1) := dOf oL_law_4 50 rfl
theorem dL_law_499 : decode cL_law 499 = .ok (.iadd, 1) := dOf oL_law_4 51 rfl
theorem dL_law_500 : decode cL_law 500 = .ok (.iaload, 1) := dOf oL_law_4 52 rfl
theorem dL_law_501 : decode cL_law 501 = .ok (.aload_n 0, 1) := dOf oL_law_4 53 rfl
theorem dL_law_502 : decode cL_law 502 = .ok (.iload_n 3, 1) := dOf oL_law_4 54 rfl
theorem dL_law_503 : decode cL_law 503 = .ok (.iconst 2, 1) := dOf oL_law_4 55 rfl
theorem dL_law_504 : decode cL_law 504 = .ok (.iadd, 1) := dOf oL_law_4 56 rfl
theorem dL_law_505 : decode cL_law 505 = .ok (.iaload, 1) := dOf oL_law_4 57 rfl
theorem dL_law_506 : decode cL_law 506 = .ok (.invokevirtual 62, 3) := dOf oL_law_4 58 rfl
theorem dL_law_509 : decode cL_law 509 = .ok (.aload_n 2, 1) := dOf oL_law_4 59 rfl
def eL_law_5 : List (Nat × Instr × Nat) := [(510, .aload_n 0, 1), (511, .iload_n 3, 1), (512, .iconst 1, 1), (513, .iadd, 1), (514, .iaload, 1), (515, .aload_n 0, 1), (516, .iload_n 3, 1), (517, .iconst 2, 1), (518, .iadd, 1), (519, .iaload, 1), (520, .invokevirtual 65, 3), (523, .if_icmp .eq 489, 3), (526, .iconst 0, 1), (527, .ireturn, 1), (528, .aload_n 1, 1), (529, .aload_n 0, 1), (530, .iload_n 3, 1), (531, .iconst 1, 1), (532, .iadd, 1), (533, .iaload, 1), (534, .invokevirtual 66, 3), (537, .aload_n 2, 1), (538, .aload_n 0, 1), (539, .iload_n 3, 1), (540, .iconst 1, 1), (541, .iadd, 1), (542, .iaload, 1), (543, .invokevirtual 69, 3), (546, .if_icmp .eq 466, 3), (549, .iconst 0, 1), (550, .ireturn, 1), (551, .aload_n 1, 1), (552, .invokevirtual 70, 3), (555, .aload_n 2, 1), (556, .invokevirtual 73, 3), (559, .if_icmp .eq 453, 3), (562, .iconst 0, 1), (563, .ireturn, 1), (564, .aload_n 1, 1), (565, .aload_n 0, 1), (566, .iload_n 3, 1), (567, .iconst 1, 1), (568, .iadd, 1), (569, .iaload, 1), (570, .invokevirtual 74, 3), (573, .aload_n 2, 1), (574, .aload_n 0, 1), (575, .iload_n 3, 1), (576, .iconst 1, 1), (577, .iadd, 1), (578, .iaload, 1), (579, .invokevirtual 77, 3), (582, .if_icmp .eq 430, 3), (585, .iconst 0, 1), (586, .ireturn, 1), (587, .aload_n 1, 1), (588, .invokevirtual 78, 3), (591, .aload_n 2, 1), (592, .invokevirtual 81, 3), (595, .if_icmp .eq 417, 3)]
theorem oL_law_5 : okC cL_law eL_law_5 = true := by decide +kernel
theorem dL_law_510 : decode cL_law 510 = .ok (.aload_n 0, 1) := dOf oL_law_5 0 rfl
theorem dL_law_511 : decode cL_law 511 = .ok (.iload_n 3, 1) := dOf oL_law_5 1 rfl
theorem dL_law_512 : decode cL_law 512 = .ok (.iconst 1, 1) := dOf oL_law_5 2 rfl
theorem dL_law_513 : decode cL_law 513 = .ok (.iadd, 1) := dOf oL_law_5 3 rfl
theorem dL_law_514 : decode cL_law 514 = .ok (.iaload, 1) := dOf oL_law_5 4 rfl
theorem dL_law_515 : decode cL_law 515 = .ok (.aload_n 0, 1) := dOf oL_law_5 5 rfl
theorem dL_law_516 : decode cL_law 516 = .ok (.iload_n 3, 1) := dOf oL_law_5 6 rfl
theorem dL_law_517 : decode cL_law 517 = .ok (.iconst 2, 1) := dOf oL_law_5 7 rfl
theorem dL_law_518 : decode cL_law 518 = .ok (.iadd, 1) := dOf oL_law_5 8 rfl
theorem dL_law_519 : decode cL_law 519 = .ok (.iaload, 1) := dOf oL_law_5 9 rfl
theorem dL_law_520 : decode cL_law 520 = .ok (.invokevirtual 65, 3) := dOf oL_law_5 10 rfl
theorem dL_law_523 : decode cL_law 523 = .ok (.if_icmp .eq 489, 3) := dOf oL_law_5 11 rfl
theorem dL_law_526 : decode cL_law 526 = .ok (.iconst 0, 1) := dOf oL_law_5 12 rfl
theorem dL_law_527 : decode cL_law 527 = .ok (.ireturn, 1) := dOf oL_law_5 13 rfl
theorem dL_law_528 : decode cL_law 528 = .ok (.aload_n 1, 1) := dOf oL_law_5 14 rfl
theorem dL_law_529 : decode cL_law 529 = .ok (.aload_n 0, 1) := dOf oL_law_5 15 rfl
theorem dL_law_530 : decode cL_law 530 = .ok (.iload_n 3, 1) := dOf oL_law_5 16 rfl
theorem dL_law_531 : decode cL_law 531 = .ok (.iconst 1, 1) := dOf oL_law_5 17 rfl
theorem dL_law_532 : decode cL_law 532 = .ok (.iadd, 1) := dOf oL_law_5 18 rfl
theorem dL_law_533 : decode cL_law 533 = .ok (.iaload, 1) := dOf oL_law_5 19 rfl
theorem dL_law_534 : decode cL_law 534 = .ok (.invokevirtual 66, 3) := dOf oL_law_5 20 rfl
theorem dL_law_537 : decode cL_law 537 = .ok (.aload_n 2, 1) := dOf oL_law_5 21 rfl
theorem dL_law_538 : decode cL_law 538 = .ok (.aload_n 0, 1) := dOf oL_law_5 22 rfl
theorem dL_law_539 : decode cL_law 539 = .ok (.iload_n 3, 1) := dOf oL_law_5 23 rfl
theorem dL_law_540 : decode cL_law 540 = .ok (.iconst 1, 1) := dOf oL_law_5 24 rfl
theorem dL_law_541 : decode cL_law 541 = .ok (.iadd, 1) := dOf oL_law_5 25 rfl
theorem dL_law_542 : decode cL_law 542 = .ok (.iaload, 1) := dOf oL_law_5 26 rfl
theorem dL_law_543 : decode cL_law 543 = .ok (.invokevirtual 69, 3) := dOf oL_law_5 27 rfl
theorem dL_law_546 : decode cL_law 546 = .ok (.if_icmp .eq 466, 3) := dOf oL_law_5 28 rfl
theorem dL_law_549 : decode cL_law 549 = .ok (.iconst 0, 1) := dOf oL_law_5 29 rfl
theorem dL_law_550 : decode cL_law 550 = .ok (.ireturn, 1) := dOf oL_law_5 30 rfl
theorem dL_law_551 : decode cL_law 551 = .ok (.aload_n 1, 1) := dOf oL_law_5 31 rfl
theorem dL_law_552 : decode cL_law 552 = .ok (.invokevirtual 70, 3) := dOf oL_law_5 32 rfl
theorem dL_law_555 : decode cL_law 555 = .ok (.aload_n 2, 1) := dOf oL_law_5 33 rfl
theorem dL_law_556 : decode cL_law 556 = .ok (.invokevirtual 73, 3) := dOf oL_law_5 34 rfl
theorem dL_law_559 : decode cL_law 559 = .ok (.if_icmp .eq 453, 3) := dOf oL_law_5 35 rfl
theorem dL_law_562 : decode cL_law 562 = .ok (.iconst 0, 1) := dOf oL_law_5 36 rfl
theorem dL_law_563 : decode cL_law 563 = .ok (.ireturn, 1) := dOf oL_law_5 37 rfl
theorem dL_law_564 : decode cL_law 564 = .ok (.aload_n 1, 1) := dOf oL_law_5 38 rfl
theorem dL_law_565 : decode cL_law 565 = .ok (.aload_n 0, 1) := dOf oL_law_5 39 rfl
theorem dL_law_566 : decode cL_law 566 = .ok (.iload_n 3, 1) := dOf oL_law_5 40 rfl
theorem dL_law_567 : decode cL_law 567 = .ok (.iconst 1, 1) := dOf oL_law_5 41 rfl
theorem dL_law_568 : decode cL_law 568 = .ok (.iadd, 1) := dOf oL_law_5 42 rfl
theorem dL_law_569 : decode cL_law 569 = .ok (.iaload, 1) := dOf oL_law_5 43 rfl
theorem dL_law_570 : decode cL_law 570 = .ok (.invokevirtual 74, 3) := dOf oL_law_5 44 rfl
theorem dL_law_573 : decode cL_law 573 = .ok (.aload_n 2, 1) := dOf oL_law_5 45 rfl
theorem dL_law_574 : decode cL_law 574 = .ok (.aload_n 0, 1) := dOf oL_law_5 46 rfl
theorem dL_law_575 : decode cL_law 575 = .ok (.iload_n 3, 1) := dOf oL_law_5 47 rfl
theorem dL_law_576 : decode cL_law 576 = .ok (.iconst 1, 1) := dOf oL_law_5 48 rfl
theorem dL_law_577 : decode cL_law 577 = .ok (.iadd, 1) := dOf oL_law_5 49 rfl
theorem dL_law_578 : decode cL_law 578 = .ok (.iaload, 1) := dOf oL_law_5 50 rfl
theorem dL_law_579 : decode cL_law 579 = .ok (.invokevirtual 77, 3) := dOf oL_law_5 51 rfl
theorem dL_law_582 : decode cL_law 582 = .ok (.if_icmp .eq 430, 3) := dOf oL_law_5 52 rfl
theorem dL_law_585 : decode cL_law 585 = .ok (.iconst 0, 1) := dOf oL_law_5 53 rfl
theorem dL_law_586 : decode cL_law 586 = .ok (.ireturn, 1) := dOf oL_law_5 54 rfl
theorem dL_law_587 : decode cL_law 587 = .ok (.aload_n 1, 1) := dOf oL_law_5 55 rfl
theorem dL_law_588 : decode cL_law 588 = .ok (.invokevirtual 78, 3) := dOf oL_law_5 56 rfl
theorem dL_law_591 : decode cL_law 591 = .ok (.aload_n 2, 1) := dOf oL_law_5 57 rfl
theorem dL_law_592 : decode cL_law 592 = .ok (.invokevirtual 81, 3) := dOf oL_law_5 58 rfl
theorem dL_law_595 : decode cL_law 595 = .ok (.if_icmp .eq 417, 3) := dOf oL_law_5 59 rfl
def eL_law_6 : List (Nat × Instr × Nat) := [(598, .iconst 0, 1), (599, .ireturn, 1), (600, .aload_n 1, 1), (601, .aload_n 0, 1), (602, .iload_n 3, 1), (603, .iconst 1, 1), (604, .iadd, 1), (605, .iaload, 1), (606, .invokevirtual 82, 3), (609, .aload_n 2, 1), (610, .aload_n 0, 1), (611, .iload_n 3, 1), (612, .iconst 1, 1), (613, .iadd, 1), (614, .iaload, 1), (615, .invokevirtual 85, 3), (618, .if_icmp .eq 394, 3), (621, .iconst 0, 1), (622, .ireturn, 1), (623, .aload_n 1, 1), (624, .aload_n 0, 1), (625, .iload_n 3, 1), (626, .iconst 1, 1), (627, .iadd, 1), (628, .iaload, 1), (629, .invokevirtual 86, 3), (632, .aload_n 2, 1), (633, .aload_n 0, 1), (634, .iload_n 3, 1), (635, .iconst 1, 1), (636, .iadd, 1), (637, .iaload, 1), (638, .invokevirtual 89, 3), (641, .if_icmp .eq 371, 3), (644, .iconst 0, 1), (645, .ireturn, 1), (646, .aload_n 1, 1), (647, .invokevirtual 90, 3), (650, .aload_n 2, 1), (651, .invokevirtual 93, 3), (654, .if_icmp .eq 358, 3), (657, .iconst 0, 1), (658, .ireturn, 1), (659, .aload_n 1, 1), (660, .aload_n 0, 1), (661, .iload_n 3, 1), (662, .iconst 1, 1), (663, .iadd, 1), (664, .iaload, 1), (665, .aload_n 0, 1), (666, .iload_n 3, 1), (667, .iconst 2, 1), (668, .iadd, 1), (669, .iaload, 1), (670, .invokevirtual 94, 3), (673, .aload_n 2, 1), (674, .aload_n 0, 1), (675, .iload_n 3, 1), (676, .iconst 1, 1), (677, .iadd, 1)]
theorem oL_law_6 : okC cL_law eL_law_6 = true := by decide +kernel
theorem dL_law_598 : decode cL_law 598 = .ok (.iconst 0, 1) := dOf oL_law_6 0 rfl
theorem dL_law_599 : decode cL_law 599 = .ok (.ireturn, 1) := dOf oL_law_6 1 rfl
theorem dL_law_600 : decode cL_law 600 = .ok (.aload_n 1, 1) := dOf oL_law_6 2 rfl
theorem dL_law_601 : decode cL_law 601 = .ok (.aload_n 0, 1) := dOf oL_law_6 3 rfl
theorem dL_law_602 : decode cL_law 602 = .ok (.iload_n 3, 1) := dOf oL_law_6 4 rfl
theorem dL_law_603 : decode cL_law 603 = .ok (.iconst 1, 1) := dOf oL_law_6 5 rfl
theorem dL_law_604 : decode cL_law 604 = .ok (.iadd, 1) := dOf oL_law_6 6 rfl
theorem dL_law_605 : decode cL_law 605 = .ok (.iaload, 1) := dOf oL_law_6 7 rfl
theorem dL_law_606 : decode cL_law 606 = .ok (.invokevirtual 82, 3) := dOf oL_law_6 8 rfl
theorem dL_law_609 : decode cL_law 609 = .ok (.aload_n 2, 1) := dOf oL_law_6 9 rfl
theorem dL_law_610 : decode cL_law 610 = .ok (.aload_n 0, 1) := dOf oL_law_6 10 rfl
theorem dL_law_611 : decode cL_law 611 = .ok (.iload_n 3, 1) := dOf oL_law_6 11 rfl
theorem dL_law_612 : decode cL_law 612 = .ok (.iconst 1, 1) := dOf oL_law_6 12 rfl
theorem dL_law_613 : decode cL_law 613 = .ok (.iadd, 1) := dOf oL_law_6 13 rfl
theorem dL_law_614 : decode cL_law 614 = .ok (.iaload, 1) := dOf oL_law_6 14 rfl
theorem dL_law_615 : decode cL_law 615 = .ok (.invokevirtual 85, 3) := dOf oL_law_6 15 rfl
theorem dL_law_618 : decode cL_law 618 = .ok (.if_icmp .eq 394, 3) := dOf oL_law_6 16 rfl
theorem dL_law_621 : decode cL_law 621 = .ok (.iconst 0, 1) := dOf oL_law_6 17 rfl
theorem dL_law_622 : decode cL_law 622 = .ok (.ireturn, 1) := dOf oL_law_6 18 rfl
theorem dL_law_623 : decode cL_law 623 = .ok (.aload_n 1, 1) := dOf oL_law_6 19 rfl
theorem dL_law_624 : decode cL_law 624 = .ok (.aload_n 0, 1) := dOf oL_law_6 20 rfl
theorem dL_law_625 : decode cL_law 625 = .ok (.iload_n 3, 1) := dOf oL_law_6 21 rfl
theorem dL_law_626 : decode cL_law 626 = .ok (.iconst 1, 1) := dOf oL_law_6 22 rfl
theorem dL_law_627 : decode cL_law 627 = .ok (.iadd, 1) := dOf oL_law_6 23 rfl
theorem dL_law_628 : decode cL_law 628 = .ok (.iaload, 1) := dOf oL_law_6 24 rfl
theorem dL_law_629 : decode cL_law 629 = .ok (.invokevirtual 86, 3) := dOf oL_law_6 25 rfl
theorem dL_law_632 : decode cL_law 632 = .ok (.aload_n 2, 1) := dOf oL_law_6 26 rfl
theorem dL_law_633 : decode cL_law 633 = .ok (.aload_n 0, 1) := dOf oL_law_6 27 rfl
theorem dL_law_634 : decode cL_law 634 = .ok (.iload_n 3, 1) := dOf oL_law_6 28 rfl
theorem dL_law_635 : decode cL_law 635 = .ok (.iconst 1, 1) := dOf oL_law_6 29 rfl
theorem dL_law_636 : decode cL_law 636 = .ok (.iadd, 1) := dOf oL_law_6 30 rfl
theorem dL_law_637 : decode cL_law 637 = .ok (.iaload, 1) := dOf oL_law_6 31 rfl
theorem dL_law_638 : decode cL_law 638 = .ok (.invokevirtual 89, 3) := dOf oL_law_6 32 rfl
theorem dL_law_641 : decode cL_law 641 = .ok (.if_icmp .eq 371, 3) := dOf oL_law_6 33 rfl
theorem dL_law_644 : decode cL_law 644 = .ok (.iconst 0, 1) := dOf oL_law_6 34 rfl
theorem dL_law_645 : decode cL_law 645 = .ok (.ireturn, 1) := dOf oL_law_6 35 rfl
theorem dL_law_646 : decode cL_law 646 = .ok (.aload_n 1, 1) := dOf oL_law_6 36 rfl
theorem dL_law_647 : decode cL_law 647 = .ok (.invokevirtual 90, 3) := dOf oL_law_6 37 rfl
theorem dL_law_650 : decode cL_law 650 = .ok (.aload_n 2, 1) := dOf oL_law_6 38 rfl
theorem dL_law_651 : decode cL_law 651 = .ok (.invokevirtual 93, 3) := dOf oL_law_6 39 rfl
theorem dL_law_654 : decode cL_law 654 = .ok (.if_icmp .eq 358, 3) := dOf oL_law_6 40 rfl
theorem dL_law_657 : decode cL_law 657 = .ok (.iconst 0, 1) := dOf oL_law_6 41 rfl
theorem dL_law_658 : decode cL_law 658 = .ok (.ireturn, 1) := dOf oL_law_6 42 rfl
theorem dL_law_659 : decode cL_law 659 = .ok (.aload_n 1, 1) := dOf oL_law_6 43 rfl
theorem dL_law_660 : decode cL_law 660 = .ok (.aload_n 0, 1) := dOf oL_law_6 44 rfl
theorem dL_law_661 : decode cL_law 661 = .ok (.iload_n 3, 1) := dOf oL_law_6 45 rfl
theorem dL_law_662 : decode cL_law 662 = .ok (.iconst 1, 1) := dOf oL_law_6 46 rfl
theorem dL_law_663 : decode cL_law 663 = .ok (.iadd, 1) := dOf oL_law_6 47 rfl
theorem dL_law_664 : decode cL_law 664 = .ok (.iaload, 1) := dOf oL_law_6 48 rfl
theorem dL_law_665 : decode cL_law 665 = .ok (.aload_n 0, 1) := dOf oL_law_6 49 rfl
theorem dL_law_666 : decode cL_law 666 = .ok (.iload_n 3, 1) := dOf oL_law_6 50 rfl
theorem dL_law_667 : decode cL_law 667 = .ok (.iconst 2, 1) := dOf oL_law_6 51 rfl
theorem dL_law_668 : decode cL_law 668 = .ok (.iadd, 1) := dOf oL_law_6 52 rfl
theorem dL_law_669 : decode cL_law 669 = .ok (.iaload, 1) := dOf oL_law_6 53 rfl
theorem dL_law_670 : decode cL_law 670 = .ok (.invokevirtual 94, 3) := dOf oL_law_6 54 rfl
theorem dL_law_673 : decode cL_law 673 = .ok (.aload_n 2, 1) := dOf oL_law_6 55 rfl
theorem dL_law_674 : decode cL_law 674 = .ok (.aload_n 0, 1) := dOf oL_law_6 56 rfl
theorem dL_law_675 : decode cL_law 675 = .ok (.iload_n 3, 1) := dOf oL_law_6 57 rfl
theorem dL_law_676 : decode cL_law 676 = .ok (.iconst 1, 1) := dOf oL_law_6 58 rfl
theorem dL_law_677 : decode cL_law 677 = .ok (.iadd, 1) := dOf oL_law_6 59 rfl
def eL_law_7 : List (Nat × Instr × Nat) := [(678, .iaload, 1), (679, .aload_n 0, 1), (680, .iload_n 3, 1), (681, .iconst 2, 1), (682, .iadd, 1), (683, .iaload, 1), (684, .invokevirtual 97, 3), (687, .if_icmp .eq 325, 3), (690, .iconst 0, 1), (691, .ireturn, 1), (692, .aload_n 1, 1), (693, .invokevirtual 98, 3), (696, .aload_n 2, 1), (697, .invokevirtual 101, 3), (700, .if_icmp .eq 312, 3), (703, .iconst 0, 1), (704, .ireturn, 1), (705, .aload_n 1, 1), (706, .invokevirtual 102, 3), (709, .aload_n 2, 1), (710, .invokevirtual 105, 3), (713, .if_icmp .eq 299, 3), (716, .iconst 0, 1), (717, .ireturn, 1), (718, .aload_n 1, 1), (719, .invokevirtual 106, 3), (722, .aload_n 2, 1), (723, .invokevirtual 109, 3), (726, .if_icmp .eq 286, 3), (729, .iconst 0, 1), (730, .ireturn, 1), (731, .aload_n 1, 1), (732, .aload_n 0, 1), (733, .iload_n 3, 1), (734, .iconst 1, 1), (735, .iadd, 1), (736, .iaload, 1), (737, .aload_n 0, 1), (738, .iload_n 3, 1), (739, .iconst 2, 1), (740, .iadd, 1), (741, .iaload, 1), (742, .invokevirtual 110, 3), (745, .aload_n 2, 1), (746, .aload_n 0, 1), (747, .iload_n 3, 1), (748, .iconst 1, 1), (749, .iadd, 1), (750, .iaload, 1), (751, .aload_n 0, 1), (752, .iload_n 3, 1), (753, .iconst 2, 1), (754, .iadd, 1), (755, .iaload, 1), (756, .invokevirtual 113, 3), (759, .if_icmp .eq 253, 3), (762, .iconst 0, 1), (763, .ireturn, 1), (764, .aload_n 1, 1), (765, .aload_n 0, 1)]
theorem oL_law_7 : okC cL_law eL_law_7 = true := by decide +kernel
theorem dL_law_678 : decode cL_law 678 = .ok (.iaload, 1) := dOf oL_law_7 0 rfl
theorem dL_law_679 : decode cL_law 679 = .ok (.aload_n 0, 1) := dOf oL_law_7 1 rfl
theorem dL_law_680 : decode cL_law 680 = .ok (.iload_n 3, 1) := dOf oL_law_7 2 rfl
theorem dL_law_681 : decode cL_law 681 = .ok (.iconst 2, 1) := dOf oL_law_7 3 rfl
theorem dL_law_682 : decode cL_law 682 = .ok (.iadd, 1) := dOf oL_law_7 4 rfl
theorem dL_law_683 : decode cL_law 683 = .ok (.iaload, 1) := dOf oL_law_7 5 rfl
theorem dL_law_684 : decode cL_law 684 = .ok (.invokevirtual 97, 3) := dOf oL_law_7 6 rfl
theorem dL_law_687 : decode cL_law 687 = .ok (.if_icmp .eq 325, 3) := dOf oL_law_7 7 rfl
theorem dL_law_690 : decode cL_law 690 = .ok (.iconst 0, 1) := dOf oL_law_7 8 rfl
theorem dL_law_691 : decode cL_law 691 = .ok (.ireturn, 1) := dOf oL_law_7 9 rfl
theorem dL_law_692 : decode cL_law 692 = .ok (.aload_n 1, 1) := dOf oL_law_7 10 rfl
theorem dL_law_693 : decode cL_law 693 = .ok (.invokevirtual 98, 3) := dOf oL_law_7 11 rfl
theorem dL_law_696 : decode cL_law 696 = .ok (.aload_n 2, 1) := dOf oL_law_7 12 rfl
theorem dL_law_697 : decode cL_law 697 = .ok (.invokevirtual 101, 3) := dOf oL_law_7 13 rfl
theorem dL_law_700 : decode cL_law 700 = .ok (.if_icmp .eq 312, 3) := dOf oL_law_7 14 rfl
theorem dL_law_703 : decode cL_law 703 = .ok (.iconst 0, 1) := dOf oL_law_7 15 rfl
theorem dL_law_704 : decode cL_law 704 = .ok (.ireturn, 1) := dOf oL_law_7 16 rfl
theorem dL_law_705 : decode cL_law 705 = .ok (.aload_n 1, 1) := dOf oL_law_7 17 rfl
theorem dL_law_706 : decode cL_law 706 = .ok (.invokevirtual 102, 3) := dOf oL_law_7 18 rfl
theorem dL_law_709 : decode cL_law 709 = .ok (.aload_n 2, 1) := dOf oL_law_7 19 rfl
theorem dL_law_710 : decode cL_law 710 = .ok (.invokevirtual 105, 3) := dOf oL_law_7 20 rfl
theorem dL_law_713 : decode cL_law 713 = .ok (.if_icmp .eq 299, 3) := dOf oL_law_7 21 rfl
theorem dL_law_716 : decode cL_law 716 = .ok (.iconst 0, 1) := dOf oL_law_7 22 rfl
theorem dL_law_717 : decode cL_law 717 = .ok (.ireturn, 1) := dOf oL_law_7 23 rfl
theorem dL_law_718 : decode cL_law 718 = .ok (.aload_n 1, 1) := dOf oL_law_7 24 rfl
theorem dL_law_719 : decode cL_law 719 = .ok (.invokevirtual 106, 3) := dOf oL_law_7 25 rfl
theorem dL_law_722 : decode cL_law 722 = .ok (.aload_n 2, 1) := dOf oL_law_7 26 rfl
theorem dL_law_723 : decode cL_law 723 = .ok (.invokevirtual 109, 3) := dOf oL_law_7 27 rfl
theorem dL_law_726 : decode cL_law 726 = .ok (.if_icmp .eq 286, 3) := dOf oL_law_7 28 rfl
theorem dL_law_729 : decode cL_law 729 = .ok (.iconst 0, 1) := dOf oL_law_7 29 rfl
theorem dL_law_730 : decode cL_law 730 = .ok (.ireturn, 1) := dOf oL_law_7 30 rfl
theorem dL_law_731 : decode cL_law 731 = .ok (.aload_n 1, 1) := dOf oL_law_7 31 rfl
theorem dL_law_732 : decode cL_law 732 = .ok (.aload_n 0, 1) := dOf oL_law_7 32 rfl
theorem dL_law_733 : decode cL_law 733 = .ok (.iload_n 3, 1) := dOf oL_law_7 33 rfl
theorem dL_law_734 : decode cL_law 734 = .ok (.iconst 1, 1) := dOf oL_law_7 34 rfl
theorem dL_law_735 : decode cL_law 735 = .ok (.iadd, 1) := dOf oL_law_7 35 rfl
theorem dL_law_736 : decode cL_law 736 = .ok (.iaload, 1) := dOf oL_law_7 36 rfl
theorem dL_law_737 : decode cL_law 737 = .ok (.aload_n 0, 1) := dOf oL_law_7 37 rfl
theorem dL_law_738 : decode cL_law 738 = .ok (.iload_n 3, 1) := dOf oL_law_7 38 rfl
theorem dL_law_739 : decode cL_law 739 = .ok (.iconst 2, 1) := dOf oL_law_7 39 rfl
theorem dL_law_740 : decode cL_law 740 = .ok (.iadd, 1) := dOf oL_law_7 40 rfl
theorem dL_law_741 : decode cL_law 741 = .ok (.iaload, 1) := dOf oL_law_7 41 rfl
theorem dL_law_742 : decode cL_law 742 = .ok (.invokevirtual 110, 3) := dOf oL_law_7 42 rfl
theorem dL_law_745 : decode cL_law 745 = .ok (.aload_n 2, 1) := dOf oL_law_7 43 rfl
theorem dL_law_746 : decode cL_law 746 = .ok (.aload_n 0, 1) := dOf oL_law_7 44 rfl
theorem dL_law_747 : decode cL_law 747 = .ok (.iload_n 3, 1) := dOf oL_law_7 45 rfl
theorem dL_law_748 : decode cL_law 748 = .ok (.iconst 1, 1) := dOf oL_law_7 46 rfl
theorem dL_law_749 : decode cL_law 749 = .ok (.iadd, 1) := dOf oL_law_7 47 rfl
theorem dL_law_750 : decode cL_law 750 = .ok (.iaload, 1) := dOf oL_law_7 48 rfl
theorem dL_law_751 : decode cL_law 751 = .ok (.aload_n 0, 1) := dOf oL_law_7 49 rfl
theorem dL_law_752 : decode cL_law 752 = .ok (.iload_n 3, 1) := dOf oL_law_7 50 rfl
theorem dL_law_753 : decode cL_law 753 = .ok (.iconst 2, 1) := dOf oL_law_7 51 rfl
theorem dL_law_754 : decode cL_law 754 = .ok (.iadd, 1) := dOf oL_law_7 52 rfl
theorem dL_law_755 : decode cL_law 755 = .ok (.iaload, 1) := dOf oL_law_7 53 rfl
theorem dL_law_756 : decode cL_law 756 = .ok (.invokevirtual 113, 3) := dOf oL_law_7 54 rfl
theorem dL_law_759 : decode cL_law 759 = .ok (.if_icmp .eq 253, 3) := dOf oL_law_7 55 rfl
theorem dL_law_762 : decode cL_law 762 = .ok (.iconst 0, 1) := dOf oL_law_7 56 rfl
theorem dL_law_763 : decode cL_law 763 = .ok (.ireturn, 1) := dOf oL_law_7 57 rfl
theorem dL_law_764 : decode cL_law 764 = .ok (.aload_n 1, 1) := dOf oL_law_7 58 rfl
theorem dL_law_765 : decode cL_law 765 = .ok (.aload_n 0, 1) := dOf oL_law_7 59 rfl
def eL_law_8 : List (Nat × Instr × Nat) := [(766, .iload_n 3, 1), (767, .iconst 1, 1), (768, .iadd, 1), (769, .iaload, 1), (770, .aload_n 0, 1), (771, .iload_n 3, 1), (772, .iconst 2, 1), (773, .iadd, 1), (774, .iaload, 1), (775, .aload_n 0, 1), (776, .iload_n 3, 1), (777, .iconst 3, 1), (778, .iadd, 1), (779, .iaload, 1), (780, .invokevirtual 114, 3), (783, .aload_n 2, 1), (784, .aload_n 0, 1), (785, .iload_n 3, 1), (786, .iconst 1, 1), (787, .iadd, 1), (788, .iaload, 1), (789, .aload_n 0, 1), (790, .iload_n 3, 1), (791, .iconst 2, 1), (792, .iadd, 1), (793, .iaload, 1), (794, .aload_n 0, 1), (795, .iload_n 3, 1), (796, .iconst 3, 1), (797, .iadd, 1), (798, .iaload, 1), (799, .invokevirtual 117, 3), (802, .if_icmp .eq 210, 3), (805, .iconst 0, 1), (806, .ireturn, 1), (807, .aload_n 1, 1), (808, .aload_n 0, 1), (809, .iload_n 3, 1), (810, .iconst 1, 1), (811, .iadd, 1), (812, .iaload, 1), (813, .invokevirtual 118, 3), (816, .aload_n 2, 1), (817, .aload_n 0, 1), (818, .iload_n 3, 1), (819, .iconst 1, 1), (820, .iadd, 1), (821, .iaload, 1), (822, .invokevirtual 121, 3), (825, .if_icmp .eq 187, 3), (828, .iconst 0, 1), (829, .ireturn, 1), (830, .aload_n 1, 1), (831, .aload_n 0, 1), (832, .iload_n 3, 1), (833, .iconst 1, 1), (834, .iadd, 1), (835, .iaload, 1), (836, .aload_n 0, 1), (837, .iload_n 3, 1)]
theorem oL_law_8 : okC cL_law eL_law_8 = true := by decide +kernel
theorem dL_law_766 : decode cL_law 766 = .ok (.iload_n 3, 1) := dOf oL_law_8 0 rfl
theorem dL_law_767 : decode cL_law 767 = .ok (.iconst 1, 1) := dOf oL_law_8 1 rfl
theorem dL_law_768 : decode cL_law 768 = .ok (.iadd, 1) := dOf oL_law_8 2 rfl
theorem dL_law_769 : decode cL_law 769 = .ok (.iaload, 1) := dOf oL_law_8 3 rfl
theorem dL_law_770 : decode cL_law 770 = .ok (.aload_n 0, 1) := dOf oL_law_8 4 rfl
theorem dL_law_771 : decode cL_law 771 = .ok (.iload_n 3, 1) := dOf oL_law_8 5 rfl
theorem dL_law_772 : decode cL_law 772 = .ok (.iconst 2, 1) := dOf oL_law_8 6 rfl
theorem dL_law_773 : decode cL_law 773 = .ok (.iadd, 1) := dOf oL_law_8 7 rfl
theorem dL_law_774 : decode cL_law 774 = .ok (.iaload, 1) := dOf oL_law_8 8 rfl
theorem dL_law_775 : decode cL_law 775 = .ok (.aload_n 0, 1) := dOf oL_law_8 9 rfl
theorem dL_law_776 : decode cL_law 776 = .ok (.iload_n 3, 1) := dOf oL_law_8 10 rfl
theorem dL_law_777 : decode cL_law 777 = .ok (.iconst 3, 1) := dOf oL_law_8 11 rfl
theorem dL_law_778 : decode cL_law 778 = .ok (.iadd, 1) := dOf oL_law_8 12 rfl
theorem dL_law_779 : decode cL_law 779 = .ok (.iaload, 1) := dOf oL_law_8 13 rfl
theorem dL_law_780 : decode cL_law 780 = .ok (.invokevirtual 114, 3) := dOf oL_law_8 14 rfl
theorem dL_law_783 : decode cL_law 783 = .ok (.aload_n 2, 1) := dOf oL_law_8 15 rfl
theorem dL_law_784 : decode cL_law 784 = .ok (.aload_n 0, 1) := dOf oL_law_8 16 rfl
theorem dL_law_785 : decode cL_law 785 = .ok (.iload_n 3, 1) := dOf oL_law_8 17 rfl
theorem dL_law_786 : decode cL_law 786 = .ok (.iconst 1, 1) := dOf oL_law_8 18 rfl
theorem dL_law_787 : decode cL_law 787 = .ok (.iadd, 1) := dOf oL_law_8 19 rfl
theorem dL_law_788 : decode cL_law 788 = .ok (.iaload, 1) := dOf oL_law_8 20 rfl
theorem dL_law_789 : decode cL_law 789 = .ok (.aload_n 0, 1) := dOf oL_law_8 21 rfl
theorem dL_law_790 : decode cL_law 790 = .ok (.iload_n 3, 1) := dOf oL_law_8 22 rfl
theorem dL_law_791 : decode cL_law 791 = .ok (.iconst 2, 1) := dOf oL_law_8 23 rfl
theorem dL_law_792 : decode cL_law 792 = .ok (.iadd, 1) := dOf oL_law_8 24 rfl
theorem dL_law_793 : decode cL_law 793 = .ok (.iaload, 1) := dOf oL_law_8 25 rfl
theorem dL_law_794 : decode cL_law 794 = .ok (.aload_n 0, 1) := dOf oL_law_8 26 rfl
theorem dL_law_795 : decode cL_law 795 = .ok (.iload_n 3, 1) := dOf oL_law_8 27 rfl
theorem dL_law_796 : decode cL_law 796 = .ok (.iconst 3, 1) := dOf oL_law_8 28 rfl
theorem dL_law_797 : decode cL_law 797 = .ok (.iadd, 1) := dOf oL_law_8 29 rfl
theorem dL_law_798 : decode cL_law 798 = .ok (.iaload, 1) := dOf oL_law_8 30 rfl
theorem dL_law_799 : decode cL_law 799 = .ok (.invokevirtual 117, 3) := dOf oL_law_8 31 rfl
theorem dL_law_802 : decode cL_law 802 = .ok (.if_icmp .eq 210, 3) := dOf oL_law_8 32 rfl
theorem dL_law_805 : decode cL_law 805 = .ok (.iconst 0, 1) := dOf oL_law_8 33 rfl
theorem dL_law_806 : decode cL_law 806 = .ok (.ireturn, 1) := dOf oL_law_8 34 rfl
theorem dL_law_807 : decode cL_law 807 = .ok (.aload_n 1, 1) := dOf oL_law_8 35 rfl
theorem dL_law_808 : decode cL_law 808 = .ok (.aload_n 0, 1) := dOf oL_law_8 36 rfl
theorem dL_law_809 : decode cL_law 809 = .ok (.iload_n 3, 1) := dOf oL_law_8 37 rfl
theorem dL_law_810 : decode cL_law 810 = .ok (.iconst 1, 1) := dOf oL_law_8 38 rfl
theorem dL_law_811 : decode cL_law 811 = .ok (.iadd, 1) := dOf oL_law_8 39 rfl
theorem dL_law_812 : decode cL_law 812 = .ok (.iaload, 1) := dOf oL_law_8 40 rfl
theorem dL_law_813 : decode cL_law 813 = .ok (.invokevirtual 118, 3) := dOf oL_law_8 41 rfl
theorem dL_law_816 : decode cL_law 816 = .ok (.aload_n 2, 1) := dOf oL_law_8 42 rfl
theorem dL_law_817 : decode cL_law 817 = .ok (.aload_n 0, 1) := dOf oL_law_8 43 rfl
theorem dL_law_818 : decode cL_law 818 = .ok (.iload_n 3, 1) := dOf oL_law_8 44 rfl
theorem dL_law_819 : decode cL_law 819 = .ok (.iconst 1, 1) := dOf oL_law_8 45 rfl
theorem dL_law_820 : decode cL_law 820 = .ok (.iadd, 1) := dOf oL_law_8 46 rfl
theorem dL_law_821 : decode cL_law 821 = .ok (.iaload, 1) := dOf oL_law_8 47 rfl
theorem dL_law_822 : decode cL_law 822 = .ok (.invokevirtual 121, 3) := dOf oL_law_8 48 rfl
theorem dL_law_825 : decode cL_law 825 = .ok (.if_icmp .eq 187, 3) := dOf oL_law_8 49 rfl
theorem dL_law_828 : decode cL_law 828 = .ok (.iconst 0, 1) := dOf oL_law_8 50 rfl
theorem dL_law_829 : decode cL_law 829 = .ok (.ireturn, 1) := dOf oL_law_8 51 rfl
theorem dL_law_830 : decode cL_law 830 = .ok (.aload_n 1, 1) := dOf oL_law_8 52 rfl
theorem dL_law_831 : decode cL_law 831 = .ok (.aload_n 0, 1) := dOf oL_law_8 53 rfl
theorem dL_law_832 : decode cL_law 832 = .ok (.iload_n 3, 1) := dOf oL_law_8 54 rfl
theorem dL_law_833 : decode cL_law 833 = .ok (.iconst 1, 1) := dOf oL_law_8 55 rfl
theorem dL_law_834 : decode cL_law 834 = .ok (.iadd, 1) := dOf oL_law_8 56 rfl
theorem dL_law_835 : decode cL_law 835 = .ok (.iaload, 1) := dOf oL_law_8 57 rfl
theorem dL_law_836 : decode cL_law 836 = .ok (.aload_n 0, 1) := dOf oL_law_8 58 rfl
theorem dL_law_837 : decode cL_law 837 = .ok (.iload_n 3, 1) := dOf oL_law_8 59 rfl
def eL_law_9 : List (Nat × Instr × Nat) := [(838, .iconst 2, 1), (839, .iadd, 1), (840, .iaload, 1), (841, .aload_n 0, 1), (842, .iload_n 3, 1), (843, .iconst 3, 1), (844, .iadd, 1), (845, .iaload, 1), (846, .invokevirtual 122, 3), (849, .aload_n 2, 1), (850, .aload_n 0, 1), (851, .iload_n 3, 1), (852, .iconst 1, 1), (853, .iadd, 1), (854, .iaload, 1), (855, .aload_n 0, 1), (856, .iload_n 3, 1), (857, .iconst 2, 1), (858, .iadd, 1), (859, .iaload, 1), (860, .aload_n 0, 1), (861, .iload_n 3, 1), (862, .iconst 3, 1), (863, .iadd, 1), (864, .iaload, 1), (865, .invokevirtual 125, 3), (868, .if_icmp .eq 144, 3), (871, .iconst 0, 1), (872, .ireturn, 1), (873, .aload_n 1, 1), (874, .aload_n 0, 1), (875, .iload_n 3, 1), (876, .iconst 1, 1), (877, .iadd, 1), (878, .iaload, 1), (879, .invokevirtual 126, 3), (882, .aload_n 2, 1), (883, .aload_n 0, 1), (884, .iload_n 3, 1), (885, .iconst 1, 1), (886, .iadd, 1), (887, .iaload, 1), (888, .invokevirtual 129, 3), (891, .if_icmp .eq 121, 3), (894, .iconst 0, 1), (895, .ireturn, 1), (896, .aload_n 1, 1), (897, .aload_n 0, 1), (898, .iload_n 3, 1), (899, .iconst 1, 1), (900, .iadd, 1), (901, .iaload, 1), (902, .aload_n 0, 1), (903, .iload_n 3, 1), (904, .iconst 2, 1), (905, .iadd, 1), (906, .iaload, 1), (907, .aload_n 0, 1), (908, .iload_n 3, 1), (909, .iconst 3, 1)]
theorem oL_law_9 : okC cL_law eL_law_9 = true := by decide +kernel
theorem dL_law_838 : decode cL_law 838 = .ok (.iconst 2, 1) := dOf oL_law_9 0 rfl
theorem dL_law_839 : decode cL_law 839 = .ok (.iadd, 1) := dOf oL_law_9 1 rfl
theorem dL_law_840 : decode cL_law 840 = .ok (.iaload, 1) := dOf oL_law_9 2 rfl
theorem dL_law_841 : decode cL_law 841 = .ok (.aload_n 0, 1) := dOf oL_law_9 3 rfl
theorem dL_law_842 : decode cL_law 842 = .ok (.iload_n 3, 1) := dOf oL_law_9 4 rfl
theorem dL_law_843 : decode cL_law 843 = .ok (.iconst 3, 1) := dOf oL_law_9 5 rfl
theorem dL_law_844 : decode cL_law 844 = .ok (.iadd, 1) := dOf oL_law_9 6 rfl
theorem dL_law_845 : decode cL_law 845 = .ok (.iaload, 1) := dOf oL_law_9 7 rfl
theorem dL_law_846 : decode cL_law 846 = .ok (.invokevirtual 122, 3) := dOf oL_law_9 8 rfl
theorem dL_law_849 : decode cL_law 849 = .ok (.aload_n 2, 1) := dOf oL_law_9 9 rfl
theorem dL_law_850 : decode cL_law 850 = .ok (.aload_n 0, 1) := dOf oL_law_9 10 rfl
theorem dL_law_851 : decode cL_law 851 = .ok (.iload_n 3, 1) := dOf oL_law_9 11 rfl
theorem dL_law_852 : decode cL_law 852 = .ok (.iconst 1, 1) := dOf oL_law_9 12 rfl
theorem dL_law_853 : decode cL_law 853 = .ok (.iadd, 1) := dOf oL_law_9 13 rfl
theorem dL_law_854 : decode cL_law 854 = .ok (.iaload, 1) := dOf oL_law_9 14 rfl
theorem dL_law_855 : decode cL_law 855 = .ok (.aload_n 0, 1) := dOf oL_law_9 15 rfl
theorem dL_law_856 : decode cL_law 856 = .ok (.iload_n 3, 1) := dOf oL_law_9 16 rfl
theorem dL_law_857 : decode cL_law 857 = .ok (.iconst 2, 1) := dOf oL_law_9 17 rfl
theorem dL_law_858 : decode cL_law 858 = .ok (.iadd, 1) := dOf oL_law_9 18 rfl
theorem dL_law_859 : decode cL_law 859 = .ok (.iaload, 1) := dOf oL_law_9 19 rfl
theorem dL_law_860 : decode cL_law 860 = .ok (.aload_n 0, 1) := dOf oL_law_9 20 rfl
theorem dL_law_861 : decode cL_law 861 = .ok (.iload_n 3, 1) := dOf oL_law_9 21 rfl
theorem dL_law_862 : decode cL_law 862 = .ok (.iconst 3, 1) := dOf oL_law_9 22 rfl
theorem dL_law_863 : decode cL_law 863 = .ok (.iadd, 1) := dOf oL_law_9 23 rfl
theorem dL_law_864 : decode cL_law 864 = .ok (.iaload, 1) := dOf oL_law_9 24 rfl
theorem dL_law_865 : decode cL_law 865 = .ok (.invokevirtual 125, 3) := dOf oL_law_9 25 rfl
theorem dL_law_868 : decode cL_law 868 = .ok (.if_icmp .eq 144, 3) := dOf oL_law_9 26 rfl
theorem dL_law_871 : decode cL_law 871 = .ok (.iconst 0, 1) := dOf oL_law_9 27 rfl
theorem dL_law_872 : decode cL_law 872 = .ok (.ireturn, 1) := dOf oL_law_9 28 rfl
theorem dL_law_873 : decode cL_law 873 = .ok (.aload_n 1, 1) := dOf oL_law_9 29 rfl
theorem dL_law_874 : decode cL_law 874 = .ok (.aload_n 0, 1) := dOf oL_law_9 30 rfl
theorem dL_law_875 : decode cL_law 875 = .ok (.iload_n 3, 1) := dOf oL_law_9 31 rfl
theorem dL_law_876 : decode cL_law 876 = .ok (.iconst 1, 1) := dOf oL_law_9 32 rfl
theorem dL_law_877 : decode cL_law 877 = .ok (.iadd, 1) := dOf oL_law_9 33 rfl
theorem dL_law_878 : decode cL_law 878 = .ok (.iaload, 1) := dOf oL_law_9 34 rfl
theorem dL_law_879 : decode cL_law 879 = .ok (.invokevirtual 126, 3) := dOf oL_law_9 35 rfl
theorem dL_law_882 : decode cL_law 882 = .ok (.aload_n 2, 1) := dOf oL_law_9 36 rfl
theorem dL_law_883 : decode cL_law 883 = .ok (.aload_n 0, 1) := dOf oL_law_9 37 rfl
theorem dL_law_884 : decode cL_law 884 = .ok (.iload_n 3, 1) := dOf oL_law_9 38 rfl
theorem dL_law_885 : decode cL_law 885 = .ok (.iconst 1, 1) := dOf oL_law_9 39 rfl
theorem dL_law_886 : decode cL_law 886 = .ok (.iadd, 1) := dOf oL_law_9 40 rfl
theorem dL_law_887 : decode cL_law 887 = .ok (.iaload, 1) := dOf oL_law_9 41 rfl
theorem dL_law_888 : decode cL_law 888 = .ok (.invokevirtual 129, 3) := dOf oL_law_9 42 rfl
theorem dL_law_891 : decode cL_law 891 = .ok (.if_icmp .eq 121, 3) := dOf oL_law_9 43 rfl
theorem dL_law_894 : decode cL_law 894 = .ok (.iconst 0, 1) := dOf oL_law_9 44 rfl
theorem dL_law_895 : decode cL_law 895 = .ok (.ireturn, 1) := dOf oL_law_9 45 rfl
theorem dL_law_896 : decode cL_law 896 = .ok (.aload_n 1, 1) := dOf oL_law_9 46 rfl
theorem dL_law_897 : decode cL_law 897 = .ok (.aload_n 0, 1) := dOf oL_law_9 47 rfl
theorem dL_law_898 : decode cL_law 898 = .ok (.iload_n 3, 1) := dOf oL_law_9 48 rfl
theorem dL_law_899 : decode cL_law 899 = .ok (.iconst 1, 1) := dOf oL_law_9 49 rfl
theorem dL_law_900 : decode cL_law 900 = .ok (.iadd, 1) := dOf oL_law_9 50 rfl
theorem dL_law_901 : decode cL_law 901 = .ok (.iaload, 1) := dOf oL_law_9 51 rfl
theorem dL_law_902 : decode cL_law 902 = .ok (.aload_n 0, 1) := dOf oL_law_9 52 rfl
theorem dL_law_903 : decode cL_law 903 = .ok (.iload_n 3, 1) := dOf oL_law_9 53 rfl
theorem dL_law_904 : decode cL_law 904 = .ok (.iconst 2, 1) := dOf oL_law_9 54 rfl
theorem dL_law_905 : decode cL_law 905 = .ok (.iadd, 1) := dOf oL_law_9 55 rfl
theorem dL_law_906 : decode cL_law 906 = .ok (.iaload, 1) := dOf oL_law_9 56 rfl
theorem dL_law_907 : decode cL_law 907 = .ok (.aload_n 0, 1) := dOf oL_law_9 57 rfl
theorem dL_law_908 : decode cL_law 908 = .ok (.iload_n 3, 1) := dOf oL_law_9 58 rfl
theorem dL_law_909 : decode cL_law 909 = .ok (.iconst 3, 1) := dOf oL_law_9 59 rfl
def eL_law_10 : List (Nat × Instr × Nat) := [(910, .iadd, 1), (911, .iaload, 1), (912, .aload_n 0, 1), (913, .iload_n 3, 1), (914, .iconst 4, 1), (915, .iadd, 1), (916, .iaload, 1), (917, .invokevirtual 130, 3), (920, .aload_n 2, 1), (921, .aload_n 0, 1), (922, .iload_n 3, 1), (923, .iconst 1, 1), (924, .iadd, 1), (925, .iaload, 1), (926, .aload_n 0, 1), (927, .iload_n 3, 1), (928, .iconst 2, 1), (929, .iadd, 1), (930, .iaload, 1), (931, .aload_n 0, 1), (932, .iload_n 3, 1), (933, .iconst 3, 1), (934, .iadd, 1), (935, .iaload, 1), (936, .aload_n 0, 1), (937, .iload_n 3, 1), (938, .iconst 4, 1), (939, .iadd, 1), (940, .iaload, 1), (941, .invokevirtual 133, 3), (944, .if_icmp .eq 68, 3), (947, .iconst 0, 1), (948, .ireturn, 1), (949, .aload_n 1, 1), (950, .aload_n 0, 1), (951, .iload_n 3, 1), (952, .iconst 1, 1), (953, .iadd, 1), (954, .iaload, 1), (955, .aload_n 0, 1), (956, .iload_n 3, 1), (957, .iconst 2, 1), (958, .iadd, 1), (959, .iaload, 1), (960, .aload_n 0, 1), (961, .iload_n 3, 1), (962, .iconst 3, 1), (963, .iadd, 1), (964, .iaload, 1), (965, .aload_n 0, 1), (966, .iload_n 3, 1), (967, .iconst 4, 1), (968, .iadd, 1), (969, .iaload, 1), (970, .aload_n 0, 1), (971, .iload_n 3, 1), (972, .iconst 5, 1), (973, .iadd, 1), (974, .iaload, 1), (975, .invokevirtual 134, 3)]
theorem oL_law_10 : okC cL_law eL_law_10 = true := by decide +kernel
theorem dL_law_910 : decode cL_law 910 = .ok (.iadd, 1) := dOf oL_law_10 0 rfl
theorem dL_law_911 : decode cL_law 911 = .ok (.iaload, 1) := dOf oL_law_10 1 rfl
theorem dL_law_912 : decode cL_law 912 = .ok (.aload_n 0, 1) := dOf oL_law_10 2 rfl
theorem dL_law_913 : decode cL_law 913 = .ok (.iload_n 3, 1) := dOf oL_law_10 3 rfl
theorem dL_law_914 : decode cL_law 914 = .ok (.iconst 4, 1) := dOf oL_law_10 4 rfl
theorem dL_law_915 : decode cL_law 915 = .ok (.iadd, 1) := dOf oL_law_10 5 rfl
theorem dL_law_916 : decode cL_law 916 = .ok (.iaload, 1) := dOf oL_law_10 6 rfl
theorem dL_law_917 : decode cL_law 917 = .ok (.invokevirtual 130, 3) := dOf oL_law_10 7 rfl
theorem dL_law_920 : decode cL_law 920 = .ok (.aload_n 2, 1) := dOf oL_law_10 8 rfl
theorem dL_law_921 : decode cL_law 921 = .ok (.aload_n 0, 1) := dOf oL_law_10 9 rfl
theorem dL_law_922 : decode cL_law 922 = .ok (.iload_n 3, 1) := dOf oL_law_10 10 rfl
theorem dL_law_923 : decode cL_law 923 = .ok (.iconst 1, 1) := dOf oL_law_10 11 rfl
theorem dL_law_924 : decode cL_law 924 = .ok (.iadd, 1) := dOf oL_law_10 12 rfl
theorem dL_law_925 : decode cL_law 925 = .ok (.iaload, 1) := dOf oL_law_10 13 rfl
theorem dL_law_926 : decode cL_law 926 = .ok (.aload_n 0, 1) := dOf oL_law_10 14 rfl
theorem dL_law_927 : decode cL_law 927 = .ok (.iload_n 3, 1) := dOf oL_law_10 15 rfl
theorem dL_law_928 : decode cL_law 928 = .ok (.iconst 2, 1) := dOf oL_law_10 16 rfl
theorem dL_law_929 : decode cL_law 929 = .ok (.iadd, 1) := dOf oL_law_10 17 rfl
theorem dL_law_930 : decode cL_law 930 = .ok (.iaload, 1) := dOf oL_law_10 18 rfl
theorem dL_law_931 : decode cL_law 931 = .ok (.aload_n 0, 1) := dOf oL_law_10 19 rfl
theorem dL_law_932 : decode cL_law 932 = .ok (.iload_n 3, 1) := dOf oL_law_10 20 rfl
theorem dL_law_933 : decode cL_law 933 = .ok (.iconst 3, 1) := dOf oL_law_10 21 rfl
theorem dL_law_934 : decode cL_law 934 = .ok (.iadd, 1) := dOf oL_law_10 22 rfl
theorem dL_law_935 : decode cL_law 935 = .ok (.iaload, 1) := dOf oL_law_10 23 rfl
theorem dL_law_936 : decode cL_law 936 = .ok (.aload_n 0, 1) := dOf oL_law_10 24 rfl
theorem dL_law_937 : decode cL_law 937 = .ok (.iload_n 3, 1) := dOf oL_law_10 25 rfl
theorem dL_law_938 : decode cL_law 938 = .ok (.iconst 4, 1) := dOf oL_law_10 26 rfl
theorem dL_law_939 : decode cL_law 939 = .ok (.iadd, 1) := dOf oL_law_10 27 rfl
theorem dL_law_940 : decode cL_law 940 = .ok (.iaload, 1) := dOf oL_law_10 28 rfl
theorem dL_law_941 : decode cL_law 941 = .ok (.invokevirtual 133, 3) := dOf oL_law_10 29 rfl
theorem dL_law_944 : decode cL_law 944 = .ok (.if_icmp .eq 68, 3) := dOf oL_law_10 30 rfl
theorem dL_law_947 : decode cL_law 947 = .ok (.iconst 0, 1) := dOf oL_law_10 31 rfl
theorem dL_law_948 : decode cL_law 948 = .ok (.ireturn, 1) := dOf oL_law_10 32 rfl
theorem dL_law_949 : decode cL_law 949 = .ok (.aload_n 1, 1) := dOf oL_law_10 33 rfl
theorem dL_law_950 : decode cL_law 950 = .ok (.aload_n 0, 1) := dOf oL_law_10 34 rfl
theorem dL_law_951 : decode cL_law 951 = .ok (.iload_n 3, 1) := dOf oL_law_10 35 rfl
theorem dL_law_952 : decode cL_law 952 = .ok (.iconst 1, 1) := dOf oL_law_10 36 rfl
theorem dL_law_953 : decode cL_law 953 = .ok (.iadd, 1) := dOf oL_law_10 37 rfl
theorem dL_law_954 : decode cL_law 954 = .ok (.iaload, 1) := dOf oL_law_10 38 rfl
theorem dL_law_955 : decode cL_law 955 = .ok (.aload_n 0, 1) := dOf oL_law_10 39 rfl
theorem dL_law_956 : decode cL_law 956 = .ok (.iload_n 3, 1) := dOf oL_law_10 40 rfl
theorem dL_law_957 : decode cL_law 957 = .ok (.iconst 2, 1) := dOf oL_law_10 41 rfl
theorem dL_law_958 : decode cL_law 958 = .ok (.iadd, 1) := dOf oL_law_10 42 rfl
theorem dL_law_959 : decode cL_law 959 = .ok (.iaload, 1) := dOf oL_law_10 43 rfl
theorem dL_law_960 : decode cL_law 960 = .ok (.aload_n 0, 1) := dOf oL_law_10 44 rfl
theorem dL_law_961 : decode cL_law 961 = .ok (.iload_n 3, 1) := dOf oL_law_10 45 rfl
theorem dL_law_962 : decode cL_law 962 = .ok (.iconst 3, 1) := dOf oL_law_10 46 rfl
theorem dL_law_963 : decode cL_law 963 = .ok (.iadd, 1) := dOf oL_law_10 47 rfl
theorem dL_law_964 : decode cL_law 964 = .ok (.iaload, 1) := dOf oL_law_10 48 rfl
theorem dL_law_965 : decode cL_law 965 = .ok (.aload_n 0, 1) := dOf oL_law_10 49 rfl
theorem dL_law_966 : decode cL_law 966 = .ok (.iload_n 3, 1) := dOf oL_law_10 50 rfl
theorem dL_law_967 : decode cL_law 967 = .ok (.iconst 4, 1) := dOf oL_law_10 51 rfl
theorem dL_law_968 : decode cL_law 968 = .ok (.iadd, 1) := dOf oL_law_10 52 rfl
theorem dL_law_969 : decode cL_law 969 = .ok (.iaload, 1) := dOf oL_law_10 53 rfl
theorem dL_law_970 : decode cL_law 970 = .ok (.aload_n 0, 1) := dOf oL_law_10 54 rfl
theorem dL_law_971 : decode cL_law 971 = .ok (.iload_n 3, 1) := dOf oL_law_10 55 rfl
theorem dL_law_972 : decode cL_law 972 = .ok (.iconst 5, 1) := dOf oL_law_10 56 rfl
theorem dL_law_973 : decode cL_law 973 = .ok (.iadd, 1) := dOf oL_law_10 57 rfl
theorem dL_law_974 : decode cL_law 974 = .ok (.iaload, 1) := dOf oL_law_10 58 rfl
theorem dL_law_975 : decode cL_law 975 = .ok (.invokevirtual 134, 3) := dOf oL_law_10 59 rfl
def eL_law_11 : List (Nat × Instr × Nat) := [(978, .aload_n 2, 1), (979, .aload_n 0, 1), (980, .iload_n 3, 1), (981, .iconst 1, 1), (982, .iadd, 1), (983, .iaload, 1), (984, .aload_n 0, 1), (985, .iload_n 3, 1), (986, .iconst 2, 1), (987, .iadd, 1), (988, .iaload, 1), (989, .aload_n 0, 1), (990, .iload_n 3, 1), (991, .iconst 3, 1), (992, .iadd, 1), (993, .iaload, 1), (994, .aload_n 0, 1), (995, .iload_n 3, 1), (996, .iconst 4, 1), (997, .iadd, 1), (998, .iaload, 1), (999, .aload_n 0, 1), (1000, .iload_n 3, 1), (1001, .iconst 5, 1), (1002, .iadd, 1), (1003, .iaload, 1), (1004, .invokevirtual 138, 3), (1007, .if_icmp .eq 5, 3), (1010, .iconst 0, 1), (1011, .ireturn, 1), (1012, .iinc 3 6, 3), (1015, .goto (-997), 3), (1018, .iconst 1, 1), (1019, .ireturn, 1)]
theorem oL_law_11 : okC cL_law eL_law_11 = true := by decide +kernel
theorem dL_law_978 : decode cL_law 978 = .ok (.aload_n 2, 1) := dOf oL_law_11 0 rfl
theorem dL_law_979 : decode cL_law 979 = .ok (.aload_n 0, 1) := dOf oL_law_11 1 rfl
theorem dL_law_980 : decode cL_law 980 = .ok (.iload_n 3, 1) := dOf oL_law_11 2 rfl
theorem dL_law_981 : decode cL_law 981 = .ok (.iconst 1, 1) := dOf oL_law_11 3 rfl
theorem dL_law_982 : decode cL_law 982 = .ok (.iadd, 1) := dOf oL_law_11 4 rfl
theorem dL_law_983 : decode cL_law 983 = .ok (.iaload, 1) := dOf oL_law_11 5 rfl
theorem dL_law_984 : decode cL_law 984 = .ok (.aload_n 0, 1) := dOf oL_law_11 6 rfl
theorem dL_law_985 : decode cL_law 985 = .ok (.iload_n 3, 1) := dOf oL_law_11 7 rfl
theorem dL_law_986 : decode cL_law 986 = .ok (.iconst 2, 1) := dOf oL_law_11 8 rfl
theorem dL_law_987 : decode cL_law 987 = .ok (.iadd, 1) := dOf oL_law_11 9 rfl
theorem dL_law_988 : decode cL_law 988 = .ok (.iaload, 1) := dOf oL_law_11 10 rfl
theorem dL_law_989 : decode cL_law 989 = .ok (.aload_n 0, 1) := dOf oL_law_11 11 rfl
theorem dL_law_990 : decode cL_law 990 = .ok (.iload_n 3, 1) := dOf oL_law_11 12 rfl
theorem dL_law_991 : decode cL_law 991 = .ok (.iconst 3, 1) := dOf oL_law_11 13 rfl
theorem dL_law_992 : decode cL_law 992 = .ok (.iadd, 1) := dOf oL_law_11 14 rfl
theorem dL_law_993 : decode cL_law 993 = .ok (.iaload, 1) := dOf oL_law_11 15 rfl
theorem dL_law_994 : decode cL_law 994 = .ok (.aload_n 0, 1) := dOf oL_law_11 16 rfl
theorem dL_law_995 : decode cL_law 995 = .ok (.iload_n 3, 1) := dOf oL_law_11 17 rfl
theorem dL_law_996 : decode cL_law 996 = .ok (.iconst 4, 1) := dOf oL_law_11 18 rfl
theorem dL_law_997 : decode cL_law 997 = .ok (.iadd, 1) := dOf oL_law_11 19 rfl
theorem dL_law_998 : decode cL_law 998 = .ok (.iaload, 1) := dOf oL_law_11 20 rfl
theorem dL_law_999 : decode cL_law 999 = .ok (.aload_n 0, 1) := dOf oL_law_11 21 rfl
theorem dL_law_1000 : decode cL_law 1000 = .ok (.iload_n 3, 1) := dOf oL_law_11 22 rfl
theorem dL_law_1001 : decode cL_law 1001 = .ok (.iconst 5, 1) := dOf oL_law_11 23 rfl
theorem dL_law_1002 : decode cL_law 1002 = .ok (.iadd, 1) := dOf oL_law_11 24 rfl
theorem dL_law_1003 : decode cL_law 1003 = .ok (.iaload, 1) := dOf oL_law_11 25 rfl
theorem dL_law_1004 : decode cL_law 1004 = .ok (.invokevirtual 138, 3) := dOf oL_law_11 26 rfl
theorem dL_law_1007 : decode cL_law 1007 = .ok (.if_icmp .eq 5, 3) := dOf oL_law_11 27 rfl
theorem dL_law_1010 : decode cL_law 1010 = .ok (.iconst 0, 1) := dOf oL_law_11 28 rfl
theorem dL_law_1011 : decode cL_law 1011 = .ok (.ireturn, 1) := dOf oL_law_11 29 rfl
theorem dL_law_1012 : decode cL_law 1012 = .ok (.iinc 3 6, 3) := dOf oL_law_11 30 rfl
theorem dL_law_1015 : decode cL_law 1015 = .ok (.goto (-997), 3) := dOf oL_law_11 31 rfl
theorem dL_law_1018 : decode cL_law 1018 = .ok (.iconst 1, 1) := dOf oL_law_11 32 rfl
theorem dL_law_1019 : decode cL_law 1019 = .ok (.ireturn, 1) := dOf oL_law_11 33 rfl
