/-! decode rows: a list a method, checked at once (written by wip/whole/gen_meths.py) -/
def okC (c : ByteArray) (l : List (Nat × Instr × Nat)) : Bool := l.all (fun r => decide (decode c r.1 = .ok (r.2.1, r.2.2)))
theorem dOf {c : ByteArray} {l : List (Nat × Instr × Nat)} (h : okC c l = true) {pc n : Nat} {x : Instr} (i : Nat) (hi : l[i]? = some (pc, x, n)) : decode c pc = .ok (x, n) := by
  have h1 := List.all_eq_true.mp h _ (List.mem_of_getElem? hi)
  exact of_decide_eq_true h1
def eX0_init_0 : List (Nat × Instr × Nat) := [(0, .aload_n 0, 1), (1, .invokespecial 3, 3), (4, .aload_n 0, 1), (5, .iconst 4, 1), (6, .anewarray 9, 3), (9, .putfield 11, 3), (12, .aload_n 0, 1), (13, .iconst 0, 1), (14, .putfield 17, 3), (17, .aload_n 0, 1), (18, .iconst 0, 1), (19, .putfield 21, 3), (22, .aload_n 0, 1), (23, .iconst 0, 1), (24, .putfield 24, 3), (27, .aload_n 0, 1), (28, .bipush 40, 2), (30, .newarray .int, 2), (32, .putfield 27, 3), (35, .aload_n 0, 1), (36, .iconst 0, 1), (37, .putfield 31, 3), (40, .aload_n 0, 1), (41, .sipush 4803, 3), (44, .newarray .int, 2), (46, .putfield 36, 3), (49, .aload_n 0, 1), (50, .sipush 4803, 3), (53, .newarray .int, 2), (55, .putfield 39, 3), (58, .aload_n 0, 1), (59, .sipush 4803, 3), (62, .newarray .byte, 2), (64, .putfield 42, 3), (67, .aload_n 0, 1), (68, .iconst 0, 1), (69, .putfield 46, 3), (72, .aload_n 0, 1), (73, .new 34, 3), (76, .dup, 1), (77, .invokespecial 49, 3), (80, .putfield 50, 3), (83, .aload_n 0, 1), (84, .sipush 4803, 3), (87, .newarray .int, 2), (89, .putfield 54, 3), (92, .aload_n 0, 1), (93, .iconst 0, 1), (94, .putfield 57, 3), (97, .aload_n 0, 1), (98, .iconst 0, 1), (99, .putfield 60, 3), (102, .aload_n 0, 1), (103, .iconst 0, 1), (104, .putfield 63, 3), (107, .aload_n 0, 1), (108, .bipush 64, 2), (110, .anewarray 66, 3), (113, .putfield 68, 3), (116, .aload_n 0, 1)]
theorem oX0_init_0 : okC cX0_init eX0_init_0 = true := by decide +kernel
theorem dX0_init_0 : decode cX0_init 0 = .ok (.aload_n 0, 1) := dOf oX0_init_0 0 rfl
theorem dX0_init_1 : decode cX0_init 1 = .ok (.invokespecial 3, 3) := dOf oX0_init_0 1 rfl
theorem dX0_init_4 : decode cX0_init 4 = .ok (.aload_n 0, 1) := dOf oX0_init_0 2 rfl
theorem dX0_init_5 : decode cX0_init 5 = .ok (.iconst 4, 1) := dOf oX0_init_0 3 rfl
theorem dX0_init_6 : decode cX0_init 6 = .ok (.anewarray 9, 3) := dOf oX0_init_0 4 rfl
theorem dX0_init_9 : decode cX0_init 9 = .ok (.putfield 11, 3) := dOf oX0_init_0 5 rfl
theorem dX0_init_12 : decode cX0_init 12 = .ok (.aload_n 0, 1) := dOf oX0_init_0 6 rfl
theorem dX0_init_13 : decode cX0_init 13 = .ok (.iconst 0, 1) := dOf oX0_init_0 7 rfl
theorem dX0_init_14 : decode cX0_init 14 = .ok (.putfield 17, 3) := dOf oX0_init_0 8 rfl
theorem dX0_init_17 : decode cX0_init 17 = .ok (.aload_n 0, 1) := dOf oX0_init_0 9 rfl
theorem dX0_init_18 : decode cX0_init 18 = .ok (.iconst 0, 1) := dOf oX0_init_0 10 rfl
theorem dX0_init_19 : decode cX0_init 19 = .ok (.putfield 21, 3) := dOf oX0_init_0 11 rfl
theorem dX0_init_22 : decode cX0_init 22 = .ok (.aload_n 0, 1) := dOf oX0_init_0 12 rfl
theorem dX0_init_23 : decode cX0_init 23 = .ok (.iconst 0, 1) := dOf oX0_init_0 13 rfl
theorem dX0_init_24 : decode cX0_init 24 = .ok (.putfield 24, 3) := dOf oX0_init_0 14 rfl
theorem dX0_init_27 : decode cX0_init 27 = .ok (.aload_n 0, 1) := dOf oX0_init_0 15 rfl
theorem dX0_init_28 : decode cX0_init 28 = .ok (.bipush 40, 2) := dOf oX0_init_0 16 rfl
theorem dX0_init_30 : decode cX0_init 30 = .ok (.newarray .int, 2) := dOf oX0_init_0 17 rfl
theorem dX0_init_32 : decode cX0_init 32 = .ok (.putfield 27, 3) := dOf oX0_init_0 18 rfl
theorem dX0_init_35 : decode cX0_init 35 = .ok (.aload_n 0, 1) := dOf oX0_init_0 19 rfl
theorem dX0_init_36 : decode cX0_init 36 = .ok (.iconst 0, 1) := dOf oX0_init_0 20 rfl
theorem dX0_init_37 : decode cX0_init 37 = .ok (.putfield 31, 3) := dOf oX0_init_0 21 rfl
theorem dX0_init_40 : decode cX0_init 40 = .ok (.aload_n 0, 1) := dOf oX0_init_0 22 rfl
theorem dX0_init_41 : decode cX0_init 41 = .ok (.sipush 4803, 3) := dOf oX0_init_0 23 rfl
theorem dX0_init_44 : decode cX0_init 44 = .ok (.newarray .int, 2) := dOf oX0_init_0 24 rfl
theorem dX0_init_46 : decode cX0_init 46 = .ok (.putfield 36, 3) := dOf oX0_init_0 25 rfl
theorem dX0_init_49 : decode cX0_init 49 = .ok (.aload_n 0, 1) := dOf oX0_init_0 26 rfl
theorem dX0_init_50 : decode cX0_init 50 = .ok (.sipush 4803, 3) := dOf oX0_init_0 27 rfl
theorem dX0_init_53 : decode cX0_init 53 = .ok (.newarray .int, 2) := dOf oX0_init_0 28 rfl
theorem dX0_init_55 : decode cX0_init 55 = .ok (.putfield 39, 3) := dOf oX0_init_0 29 rfl
theorem dX0_init_58 : decode cX0_init 58 = .ok (.aload_n 0, 1) := dOf oX0_init_0 30 rfl
theorem dX0_init_59 : decode cX0_init 59 = .ok (.sipush 4803, 3) := dOf oX0_init_0 31 rfl
theorem dX0_init_62 : decode cX0_init 62 = .ok (.newarray .byte, 2) := dOf oX0_init_0 32 rfl
theorem dX0_init_64 : decode cX0_init 64 = .ok (.putfield 42, 3) := dOf oX0_init_0 33 rfl
theorem dX0_init_67 : decode cX0_init 67 = .ok (.aload_n 0, 1) := dOf oX0_init_0 34 rfl
theorem dX0_init_68 : decode cX0_init 68 = .ok (.iconst 0, 1) := dOf oX0_init_0 35 rfl
theorem dX0_init_69 : decode cX0_init 69 = .ok (.putfield 46, 3) := dOf oX0_init_0 36 rfl
theorem dX0_init_72 : decode cX0_init 72 = .ok (.aload_n 0, 1) := dOf oX0_init_0 37 rfl
theorem dX0_init_73 : decode cX0_init 73 = .ok (.new 34, 3) := dOf oX0_init_0 38 rfl
theorem dX0_init_76 : decode cX0_init 76 = .ok (.dup, 1) := dOf oX0_init_0 39 rfl
theorem dX0_init_77 : decode cX0_init 77 = .ok (.invokespecial 49, 3) := dOf oX0_init_0 40 rfl
theorem dX0_init_80 : decode cX0_init 80 = .ok (.putfield 50, 3) := dOf oX0_init_0 41 rfl
theorem dX0_init_83 : decode cX0_init 83 = .ok (.aload_n 0, 1) := dOf oX0_init_0 42 rfl
theorem dX0_init_84 : decode cX0_init 84 = .ok (.sipush 4803, 3) := dOf oX0_init_0 43 rfl
theorem dX0_init_87 : decode cX0_init 87 = .ok (.newarray .int, 2) := dOf oX0_init_0 44 rfl
theorem dX0_init_89 : decode cX0_init 89 = .ok (.putfield 54, 3) := dOf oX0_init_0 45 rfl
theorem dX0_init_92 : decode cX0_init 92 = .ok (.aload_n 0, 1) := dOf oX0_init_0 46 rfl
theorem dX0_init_93 : decode cX0_init 93 = .ok (.iconst 0, 1) := dOf oX0_init_0 47 rfl
theorem dX0_init_94 : decode cX0_init 94 = .ok (.putfield 57, 3) := dOf oX0_init_0 48 rfl
theorem dX0_init_97 : decode cX0_init 97 = .ok (.aload_n 0, 1) := dOf oX0_init_0 49 rfl
theorem dX0_init_98 : decode cX0_init 98 = .ok (.iconst 0, 1) := dOf oX0_init_0 50 rfl
theorem dX0_init_99 : decode cX0_init 99 = .ok (.putfield 60, 3) := dOf oX0_init_0 51 rfl
theorem dX0_init_102 : decode cX0_init 102 = .ok (.aload_n 0, 1) := dOf oX0_init_0 52 rfl
theorem dX0_init_103 : decode cX0_init 103 = .ok (.iconst 0, 1) := dOf oX0_init_0 53 rfl
theorem dX0_init_104 : decode cX0_init 104 = .ok (.putfield 63, 3) := dOf oX0_init_0 54 rfl
theorem dX0_init_107 : decode cX0_init 107 = .ok (.aload_n 0, 1) := dOf oX0_init_0 55 rfl
theorem dX0_init_108 : decode cX0_init 108 = .ok (.bipush 64, 2) := dOf oX0_init_0 56 rfl
theorem dX0_init_110 : decode cX0_init 110 = .ok (.anewarray 66, 3) := dOf oX0_init_0 57 rfl
theorem dX0_init_113 : decode cX0_init 113 = .ok (.putfield 68, 3) := dOf oX0_init_0 58 rfl
theorem dX0_init_116 : decode cX0_init 116 = .ok (.aload_n 0, 1) := dOf oX0_init_0 59 rfl
def eX0_init_1 : List (Nat × Instr × Nat) := [(117, .iconst 0, 1), (118, .putfield 72, 3), (121, .iconst 0, 1), (122, .istore_n 1, 1), (123, .iload_n 1, 1), (124, .bipush 64, 2), (126, .if_icmp .ge 22, 3), (129, .aload_n 0, 1), (130, .getfield 68, 3), (133, .iload_n 1, 1), (134, .new 66, 3), (137, .dup, 1), (138, .invokespecial 75, 3), (141, .aastore, 1), (142, .iinc 1 1, 3), (145, .goto (-22), 3), (148, .return_, 1)]
theorem oX0_init_1 : okC cX0_init eX0_init_1 = true := by decide +kernel
theorem dX0_init_117 : decode cX0_init 117 = .ok (.iconst 0, 1) := dOf oX0_init_1 0 rfl
theorem dX0_init_118 : decode cX0_init 118 = .ok (.putfield 72, 3) := dOf oX0_init_1 1 rfl
theorem dX0_init_121 : decode cX0_init 121 = .ok (.iconst 0, 1) := dOf oX0_init_1 2 rfl
theorem dX0_init_122 : decode cX0_init 122 = .ok (.istore_n 1, 1) := dOf oX0_init_1 3 rfl
theorem dX0_init_123 : decode cX0_init 123 = .ok (.iload_n 1, 1) := dOf oX0_init_1 4 rfl
theorem dX0_init_124 : decode cX0_init 124 = .ok (.bipush 64, 2) := dOf oX0_init_1 5 rfl
theorem dX0_init_126 : decode cX0_init 126 = .ok (.if_icmp .ge 22, 3) := dOf oX0_init_1 6 rfl
theorem dX0_init_129 : decode cX0_init 129 = .ok (.aload_n 0, 1) := dOf oX0_init_1 7 rfl
theorem dX0_init_130 : decode cX0_init 130 = .ok (.getfield 68, 3) := dOf oX0_init_1 8 rfl
theorem dX0_init_133 : decode cX0_init 133 = .ok (.iload_n 1, 1) := dOf oX0_init_1 9 rfl
theorem dX0_init_134 : decode cX0_init 134 = .ok (.new 66, 3) := dOf oX0_init_1 10 rfl
theorem dX0_init_137 : decode cX0_init 137 = .ok (.dup, 1) := dOf oX0_init_1 11 rfl
theorem dX0_init_138 : decode cX0_init 138 = .ok (.invokespecial 75, 3) := dOf oX0_init_1 12 rfl
theorem dX0_init_141 : decode cX0_init 141 = .ok (.aastore, 1) := dOf oX0_init_1 13 rfl
theorem dX0_init_142 : decode cX0_init 142 = .ok (.iinc 1 1, 3) := dOf oX0_init_1 14 rfl
theorem dX0_init_145 : decode cX0_init 145 = .ok (.goto (-22), 3) := dOf oX0_init_1 15 rfl
theorem dX0_init_148 : decode cX0_init 148 = .ok (.return_, 1) := dOf oX0_init_1 16 rfl
def eX0_clear_0 : List (Nat × Instr × Nat) := [(0, .aload_n 0, 1), (1, .iconst 0, 1), (2, .putfield 17, 3), (5, .aload_n 0, 1), (6, .iconst 0, 1), (7, .putfield 21, 3), (10, .aload_n 0, 1), (11, .iconst 0, 1), (12, .putfield 24, 3), (15, .aload_n 0, 1), (16, .iconst 0, 1), (17, .putfield 46, 3), (20, .aload_n 0, 1), (21, .getfield 50, 3), (24, .invokevirtual 76, 3), (27, .aload_n 0, 1), (28, .iconst 0, 1), (29, .putfield 57, 3), (32, .aload_n 0, 1), (33, .iconst 0, 1), (34, .putfield 60, 3), (37, .aload_n 0, 1), (38, .iconst 0, 1), (39, .putfield 63, 3), (42, .aload_n 0, 1), (43, .iconst 0, 1), (44, .putfield 72, 3), (47, .return_, 1)]
theorem oX0_clear_0 : okC cX0_clear eX0_clear_0 = true := by decide +kernel
theorem dX0_clear_0 : decode cX0_clear 0 = .ok (.aload_n 0, 1) := dOf oX0_clear_0 0 rfl
theorem dX0_clear_1 : decode cX0_clear 1 = .ok (.iconst 0, 1) := dOf oX0_clear_0 1 rfl
theorem dX0_clear_2 : decode cX0_clear 2 = .ok (.putfield 17, 3) := dOf oX0_clear_0 2 rfl
theorem dX0_clear_5 : decode cX0_clear 5 = .ok (.aload_n 0, 1) := dOf oX0_clear_0 3 rfl
theorem dX0_clear_6 : decode cX0_clear 6 = .ok (.iconst 0, 1) := dOf oX0_clear_0 4 rfl
theorem dX0_clear_7 : decode cX0_clear 7 = .ok (.putfield 21, 3) := dOf oX0_clear_0 5 rfl
theorem dX0_clear_10 : decode cX0_clear 10 = .ok (.aload_n 0, 1) := dOf oX0_clear_0 6 rfl
theorem dX0_clear_11 : decode cX0_clear 11 = .ok (.iconst 0, 1) := dOf oX0_clear_0 7 rfl
theorem dX0_clear_12 : decode cX0_clear 12 = .ok (.putfield 24, 3) := dOf oX0_clear_0 8 rfl
theorem dX0_clear_15 : decode cX0_clear 15 = .ok (.aload_n 0, 1) := dOf oX0_clear_0 9 rfl
theorem dX0_clear_16 : decode cX0_clear 16 = .ok (.iconst 0, 1) := dOf oX0_clear_0 10 rfl
theorem dX0_clear_17 : decode cX0_clear 17 = .ok (.putfield 46, 3) := dOf oX0_clear_0 11 rfl
theorem dX0_clear_20 : decode cX0_clear 20 = .ok (.aload_n 0, 1) := dOf oX0_clear_0 12 rfl
theorem dX0_clear_21 : decode cX0_clear 21 = .ok (.getfield 50, 3) := dOf oX0_clear_0 13 rfl
theorem dX0_clear_24 : decode cX0_clear 24 = .ok (.invokevirtual 76, 3) := dOf oX0_clear_0 14 rfl
theorem dX0_clear_27 : decode cX0_clear 27 = .ok (.aload_n 0, 1) := dOf oX0_clear_0 15 rfl
theorem dX0_clear_28 : decode cX0_clear 28 = .ok (.iconst 0, 1) := dOf oX0_clear_0 16 rfl
theorem dX0_clear_29 : decode cX0_clear 29 = .ok (.putfield 57, 3) := dOf oX0_clear_0 17 rfl
theorem dX0_clear_32 : decode cX0_clear 32 = .ok (.aload_n 0, 1) := dOf oX0_clear_0 18 rfl
theorem dX0_clear_33 : decode cX0_clear 33 = .ok (.iconst 0, 1) := dOf oX0_clear_0 19 rfl
theorem dX0_clear_34 : decode cX0_clear 34 = .ok (.putfield 60, 3) := dOf oX0_clear_0 20 rfl
theorem dX0_clear_37 : decode cX0_clear 37 = .ok (.aload_n 0, 1) := dOf oX0_clear_0 21 rfl
theorem dX0_clear_38 : decode cX0_clear 38 = .ok (.iconst 0, 1) := dOf oX0_clear_0 22 rfl
theorem dX0_clear_39 : decode cX0_clear 39 = .ok (.putfield 63, 3) := dOf oX0_clear_0 23 rfl
theorem dX0_clear_42 : decode cX0_clear 42 = .ok (.aload_n 0, 1) := dOf oX0_clear_0 24 rfl
theorem dX0_clear_43 : decode cX0_clear 43 = .ok (.iconst 0, 1) := dOf oX0_clear_0 25 rfl
theorem dX0_clear_44 : decode cX0_clear 44 = .ok (.putfield 72, 3) := dOf oX0_clear_0 26 rfl
theorem dX0_clear_47 : decode cX0_clear 47 = .ok (.return_, 1) := dOf oX0_clear_0 27 rfl
def eX0_take_0 : List (Nat × Instr × Nat) := [(0, .aload_n 0, 1), (1, .getfield 17, 3), (4, .iconst 4, 1), (5, .if_icmp .ge 63, 3), (8, .aload_n 0, 1), (9, .getfield 11, 3), (12, .aload_n 0, 1), (13, .getfield 17, 3), (16, .aload_n 1, 1), (17, .aastore, 1), (18, .aload_n 0, 1), (19, .dup, 1), (20, .getfield 21, 3), (23, .aload_n 1, 1), (24, .getfield 79, 3), (27, .getfield 83, 3), (30, .iconst 4, 1), (31, .aload_n 0, 1), (32, .getfield 17, 3), (35, .imul, 1), (36, .ishl, 1), (37, .ior, 1), (38, .putfield 21, 3), (41, .aload_n 0, 1), (42, .dup, 1), (43, .getfield 24, 3), (46, .iconst 1, 1), (47, .iconst 4, 1), (48, .aload_n 0, 1), (49, .getfield 17, 3), (52, .imul, 1), (53, .ishl, 1), (54, .ior, 1), (55, .putfield 24, 3), (58, .aload_n 0, 1), (59, .dup, 1), (60, .getfield 17, 3), (63, .iconst 1, 1), (64, .iadd, 1), (65, .putfield 17, 3), (68, .return_, 1)]
theorem oX0_take_0 : okC cX0_take eX0_take_0 = true := by decide +kernel
theorem dX0_take_0 : decode cX0_take 0 = .ok (.aload_n 0, 1) := dOf oX0_take_0 0 rfl
theorem dX0_take_1 : decode cX0_take 1 = .ok (.getfield 17, 3) := dOf oX0_take_0 1 rfl
theorem dX0_take_4 : decode cX0_take 4 = .ok (.iconst 4, 1) := dOf oX0_take_0 2 rfl
theorem dX0_take_5 : decode cX0_take 5 = .ok (.if_icmp .ge 63, 3) := dOf oX0_take_0 3 rfl
theorem dX0_take_8 : decode cX0_take 8 = .ok (.aload_n 0, 1) := dOf oX0_take_0 4 rfl
theorem dX0_take_9 : decode cX0_take 9 = .ok (.getfield 11, 3) := dOf oX0_take_0 5 rfl
theorem dX0_take_12 : decode cX0_take 12 = .ok (.aload_n 0, 1) := dOf oX0_take_0 6 rfl
theorem dX0_take_13 : decode cX0_take 13 = .ok (.getfield 17, 3) := dOf oX0_take_0 7 rfl
theorem dX0_take_16 : decode cX0_take 16 = .ok (.aload_n 1, 1) := dOf oX0_take_0 8 rfl
theorem dX0_take_17 : decode cX0_take 17 = .ok (.aastore, 1) := dOf oX0_take_0 9 rfl
theorem dX0_take_18 : decode cX0_take 18 = .ok (.aload_n 0, 1) := dOf oX0_take_0 10 rfl
theorem dX0_take_19 : decode cX0_take 19 = .ok (.dup, 1) := dOf oX0_take_0 11 rfl
theorem dX0_take_20 : decode cX0_take 20 = .ok (.getfield 21, 3) := dOf oX0_take_0 12 rfl
theorem dX0_take_23 : decode cX0_take 23 = .ok (.aload_n 1, 1) := dOf oX0_take_0 13 rfl
theorem dX0_take_24 : decode cX0_take 24 = .ok (.getfield 79, 3) := dOf oX0_take_0 14 rfl
theorem dX0_take_27 : decode cX0_take 27 = .ok (.getfield 83, 3) := dOf oX0_take_0 15 rfl
theorem dX0_take_30 : decode cX0_take 30 = .ok (.iconst 4, 1) := dOf oX0_take_0 16 rfl
theorem dX0_take_31 : decode cX0_take 31 = .ok (.aload_n 0, 1) := dOf oX0_take_0 17 rfl
theorem dX0_take_32 : decode cX0_take 32 = .ok (.getfield 17, 3) := dOf oX0_take_0 18 rfl
theorem dX0_take_35 : decode cX0_take 35 = .ok (.imul, 1) := dOf oX0_take_0 19 rfl
theorem dX0_take_36 : decode cX0_take 36 = .ok (.ishl, 1) := dOf oX0_take_0 20 rfl
theorem dX0_take_37 : decode cX0_take 37 = .ok (.ior, 1) := dOf oX0_take_0 21 rfl
theorem dX0_take_38 : decode cX0_take 38 = .ok (.putfield 21, 3) := dOf oX0_take_0 22 rfl
theorem dX0_take_41 : decode cX0_take 41 = .ok (.aload_n 0, 1) := dOf oX0_take_0 23 rfl
theorem dX0_take_42 : decode cX0_take 42 = .ok (.dup, 1) := dOf oX0_take_0 24 rfl
theorem dX0_take_43 : decode cX0_take 43 = .ok (.getfield 24, 3) := dOf oX0_take_0 25 rfl
theorem dX0_take_46 : decode cX0_take 46 = .ok (.iconst 1, 1) := dOf oX0_take_0 26 rfl
theorem dX0_take_47 : decode cX0_take 47 = .ok (.iconst 4, 1) := dOf oX0_take_0 27 rfl
theorem dX0_take_48 : decode cX0_take 48 = .ok (.aload_n 0, 1) := dOf oX0_take_0 28 rfl
theorem dX0_take_49 : decode cX0_take 49 = .ok (.getfield 17, 3) := dOf oX0_take_0 29 rfl
theorem dX0_take_52 : decode cX0_take 52 = .ok (.imul, 1) := dOf oX0_take_0 30 rfl
theorem dX0_take_53 : decode cX0_take 53 = .ok (.ishl, 1) := dOf oX0_take_0 31 rfl
theorem dX0_take_54 : decode cX0_take 54 = .ok (.ior, 1) := dOf oX0_take_0 32 rfl
theorem dX0_take_55 : decode cX0_take 55 = .ok (.putfield 24, 3) := dOf oX0_take_0 33 rfl
theorem dX0_take_58 : decode cX0_take 58 = .ok (.aload_n 0, 1) := dOf oX0_take_0 34 rfl
theorem dX0_take_59 : decode cX0_take 59 = .ok (.dup, 1) := dOf oX0_take_0 35 rfl
theorem dX0_take_60 : decode cX0_take 60 = .ok (.getfield 17, 3) := dOf oX0_take_0 36 rfl
theorem dX0_take_63 : decode cX0_take 63 = .ok (.iconst 1, 1) := dOf oX0_take_0 37 rfl
theorem dX0_take_64 : decode cX0_take 64 = .ok (.iadd, 1) := dOf oX0_take_0 38 rfl
theorem dX0_take_65 : decode cX0_take 65 = .ok (.putfield 17, 3) := dOf oX0_take_0 39 rfl
theorem dX0_take_68 : decode cX0_take 68 = .ok (.return_, 1) := dOf oX0_take_0 40 rfl
def eX0_howMany_0 : List (Nat × Instr × Nat) := [(0, .iload_n 1, 1), (1, .tableswitch 42 1 3 #[27, 32, 37], 27), (28, .aload_n 0, 1), (29, .getfield 57, 3), (32, .ireturn, 1), (33, .aload_n 0, 1), (34, .getfield 60, 3), (37, .ireturn, 1), (38, .aload_n 0, 1), (39, .getfield 63, 3), (42, .ireturn, 1), (43, .aload_n 0, 1), (44, .getfield 57, 3), (47, .aload_n 0, 1), (48, .getfield 60, 3), (51, .iadd, 1), (52, .aload_n 0, 1), (53, .getfield 63, 3), (56, .iadd, 1), (57, .ireturn, 1)]
theorem oX0_howMany_0 : okC cX0_howMany eX0_howMany_0 = true := by decide +kernel
theorem dX0_howMany_0 : decode cX0_howMany 0 = .ok (.iload_n 1, 1) := dOf oX0_howMany_0 0 rfl
theorem dX0_howMany_1 : decode cX0_howMany 1 = .ok (.tableswitch 42 1 3 #[27, 32, 37], 27) := dOf oX0_howMany_0 1 rfl
theorem dX0_howMany_28 : decode cX0_howMany 28 = .ok (.aload_n 0, 1) := dOf oX0_howMany_0 2 rfl
theorem dX0_howMany_29 : decode cX0_howMany 29 = .ok (.getfield 57, 3) := dOf oX0_howMany_0 3 rfl
theorem dX0_howMany_32 : decode cX0_howMany 32 = .ok (.ireturn, 1) := dOf oX0_howMany_0 4 rfl
theorem dX0_howMany_33 : decode cX0_howMany 33 = .ok (.aload_n 0, 1) := dOf oX0_howMany_0 5 rfl
theorem dX0_howMany_34 : decode cX0_howMany 34 = .ok (.getfield 60, 3) := dOf oX0_howMany_0 6 rfl
theorem dX0_howMany_37 : decode cX0_howMany 37 = .ok (.ireturn, 1) := dOf oX0_howMany_0 7 rfl
theorem dX0_howMany_38 : decode cX0_howMany 38 = .ok (.aload_n 0, 1) := dOf oX0_howMany_0 8 rfl
theorem dX0_howMany_39 : decode cX0_howMany 39 = .ok (.getfield 63, 3) := dOf oX0_howMany_0 9 rfl
theorem dX0_howMany_42 : decode cX0_howMany 42 = .ok (.ireturn, 1) := dOf oX0_howMany_0 10 rfl
theorem dX0_howMany_43 : decode cX0_howMany 43 = .ok (.aload_n 0, 1) := dOf oX0_howMany_0 11 rfl
theorem dX0_howMany_44 : decode cX0_howMany 44 = .ok (.getfield 57, 3) := dOf oX0_howMany_0 12 rfl
theorem dX0_howMany_47 : decode cX0_howMany 47 = .ok (.aload_n 0, 1) := dOf oX0_howMany_0 13 rfl
theorem dX0_howMany_48 : decode cX0_howMany 48 = .ok (.getfield 60, 3) := dOf oX0_howMany_0 14 rfl
theorem dX0_howMany_51 : decode cX0_howMany 51 = .ok (.iadd, 1) := dOf oX0_howMany_0 15 rfl
theorem dX0_howMany_52 : decode cX0_howMany 52 = .ok (.aload_n 0, 1) := dOf oX0_howMany_0 16 rfl
theorem dX0_howMany_53 : decode cX0_howMany 53 = .ok (.getfield 63, 3) := dOf oX0_howMany_0 17 rfl
theorem dX0_howMany_56 : decode cX0_howMany 56 = .ok (.iadd, 1) := dOf oX0_howMany_0 18 rfl
theorem dX0_howMany_57 : decode cX0_howMany 57 = .ok (.ireturn, 1) := dOf oX0_howMany_0 19 rfl
def eX0_measure_0 : List (Nat × Instr × Nat) := [(0, .aload_n 0, 1), (1, .invokevirtual 88, 3), (4, .iconst 0, 1), (5, .istore_n 1, 1), (6, .iload_n 1, 1), (7, .aload_n 0, 1), (8, .getfield 31, 3), (11, .if_icmp .ge 41, 3), (14, .iconst 0, 1), (15, .istore_n 2, 1), (16, .iload_n 2, 1), (17, .aload_n 0, 1), (18, .getfield 31, 3), (21, .if_icmp .ge 25, 3), (24, .aload_n 0, 1), (25, .aload_n 0, 1), (26, .getfield 27, 3), (29, .iload_n 1, 1), (30, .iaload, 1), (31, .aload_n 0, 1), (32, .getfield 27, 3), (35, .iload_n 2, 1), (36, .iaload, 1), (37, .invokevirtual 91, 3), (40, .iinc 2 1, 3), (43, .goto (-27), 3), (46, .iinc 1 1, 3), (49, .goto (-43), 3), (52, .iconst 1, 1), (53, .istore_n 1, 1), (54, .iload_n 1, 1), (55, .iconst 3, 1), (56, .if_icmp .gt 14, 3), (59, .aload_n 0, 1), (60, .iload_n 1, 1), (61, .invokevirtual 95, 3), (64, .iinc 1 1, 3), (67, .goto (-13), 3), (70, .aload_n 0, 1), (71, .invokevirtual 99, 3), (74, .return_, 1)]
theorem oX0_measure_0 : okC cX0_measure eX0_measure_0 = true := by decide +kernel
theorem dX0_measure_0 : decode cX0_measure 0 = .ok (.aload_n 0, 1) := dOf oX0_measure_0 0 rfl
theorem dX0_measure_1 : decode cX0_measure 1 = .ok (.invokevirtual 88, 3) := dOf oX0_measure_0 1 rfl
theorem dX0_measure_4 : decode cX0_measure 4 = .ok (.iconst 0, 1) := dOf oX0_measure_0 2 rfl
theorem dX0_measure_5 : decode cX0_measure 5 = .ok (.istore_n 1, 1) := dOf oX0_measure_0 3 rfl
theorem dX0_measure_6 : decode cX0_measure 6 = .ok (.iload_n 1, 1) := dOf oX0_measure_0 4 rfl
theorem dX0_measure_7 : decode cX0_measure 7 = .ok (.aload_n 0, 1) := dOf oX0_measure_0 5 rfl
theorem dX0_measure_8 : decode cX0_measure 8 = .ok (.getfield 31, 3) := dOf oX0_measure_0 6 rfl
theorem dX0_measure_11 : decode cX0_measure 11 = .ok (.if_icmp .ge 41, 3) := dOf oX0_measure_0 7 rfl
theorem dX0_measure_14 : decode cX0_measure 14 = .ok (.iconst 0, 1) := dOf oX0_measure_0 8 rfl
theorem dX0_measure_15 : decode cX0_measure 15 = .ok (.istore_n 2, 1) := dOf oX0_measure_0 9 rfl
theorem dX0_measure_16 : decode cX0_measure 16 = .ok (.iload_n 2, 1) := dOf oX0_measure_0 10 rfl
theorem dX0_measure_17 : decode cX0_measure 17 = .ok (.aload_n 0, 1) := dOf oX0_measure_0 11 rfl
theorem dX0_measure_18 : decode cX0_measure 18 = .ok (.getfield 31, 3) := dOf oX0_measure_0 12 rfl
theorem dX0_measure_21 : decode cX0_measure 21 = .ok (.if_icmp .ge 25, 3) := dOf oX0_measure_0 13 rfl
theorem dX0_measure_24 : decode cX0_measure 24 = .ok (.aload_n 0, 1) := dOf oX0_measure_0 14 rfl
theorem dX0_measure_25 : decode cX0_measure 25 = .ok (.aload_n 0, 1) := dOf oX0_measure_0 15 rfl
theorem dX0_measure_26 : decode cX0_measure 26 = .ok (.getfield 27, 3) := dOf oX0_measure_0 16 rfl
theorem dX0_measure_29 : decode cX0_measure 29 = .ok (.iload_n 1, 1) := dOf oX0_measure_0 17 rfl
theorem dX0_measure_30 : decode cX0_measure 30 = .ok (.iaload, 1) := dOf oX0_measure_0 18 rfl
theorem dX0_measure_31 : decode cX0_measure 31 = .ok (.aload_n 0, 1) := dOf oX0_measure_0 19 rfl
theorem dX0_measure_32 : decode cX0_measure 32 = .ok (.getfield 27, 3) := dOf oX0_measure_0 20 rfl
theorem dX0_measure_35 : decode cX0_measure 35 = .ok (.iload_n 2, 1) := dOf oX0_measure_0 21 rfl
theorem dX0_measure_36 : decode cX0_measure 36 = .ok (.iaload, 1) := dOf oX0_measure_0 22 rfl
theorem dX0_measure_37 : decode cX0_measure 37 = .ok (.invokevirtual 91, 3) := dOf oX0_measure_0 23 rfl
theorem dX0_measure_40 : decode cX0_measure 40 = .ok (.iinc 2 1, 3) := dOf oX0_measure_0 24 rfl
theorem dX0_measure_43 : decode cX0_measure 43 = .ok (.goto (-27), 3) := dOf oX0_measure_0 25 rfl
theorem dX0_measure_46 : decode cX0_measure 46 = .ok (.iinc 1 1, 3) := dOf oX0_measure_0 26 rfl
theorem dX0_measure_49 : decode cX0_measure 49 = .ok (.goto (-43), 3) := dOf oX0_measure_0 27 rfl
theorem dX0_measure_52 : decode cX0_measure 52 = .ok (.iconst 1, 1) := dOf oX0_measure_0 28 rfl
theorem dX0_measure_53 : decode cX0_measure 53 = .ok (.istore_n 1, 1) := dOf oX0_measure_0 29 rfl
theorem dX0_measure_54 : decode cX0_measure 54 = .ok (.iload_n 1, 1) := dOf oX0_measure_0 30 rfl
theorem dX0_measure_55 : decode cX0_measure 55 = .ok (.iconst 3, 1) := dOf oX0_measure_0 31 rfl
theorem dX0_measure_56 : decode cX0_measure 56 = .ok (.if_icmp .gt 14, 3) := dOf oX0_measure_0 32 rfl
theorem dX0_measure_59 : decode cX0_measure 59 = .ok (.aload_n 0, 1) := dOf oX0_measure_0 33 rfl
theorem dX0_measure_60 : decode cX0_measure 60 = .ok (.iload_n 1, 1) := dOf oX0_measure_0 34 rfl
theorem dX0_measure_61 : decode cX0_measure 61 = .ok (.invokevirtual 95, 3) := dOf oX0_measure_0 35 rfl
theorem dX0_measure_64 : decode cX0_measure 64 = .ok (.iinc 1 1, 3) := dOf oX0_measure_0 36 rfl
theorem dX0_measure_67 : decode cX0_measure 67 = .ok (.goto (-13), 3) := dOf oX0_measure_0 37 rfl
theorem dX0_measure_70 : decode cX0_measure 70 = .ok (.aload_n 0, 1) := dOf oX0_measure_0 38 rfl
theorem dX0_measure_71 : decode cX0_measure 71 = .ok (.invokevirtual 99, 3) := dOf oX0_measure_0 39 rfl
theorem dX0_measure_74 : decode cX0_measure 74 = .ok (.return_, 1) := dOf oX0_measure_0 40 rfl
def eX0_findCommonPlaces_0 : List (Nat × Instr × Nat) := [(0, .aload_n 0, 1), (1, .iconst 0, 1), (2, .putfield 31, 3), (5, .iconst 0, 1), (6, .istore_n 1, 1), (7, .iload_n 1, 1), (8, .bipush 40, 2), (10, .if_icmp .ge 75, 3), (13, .iconst 1, 1), (14, .istore_n 2, 1), (15, .iconst 0, 1), (16, .istore_n 3, 1), (17, .iload_n 3, 1), (18, .aload_n 0, 1), (19, .getfield 17, 3), (22, .if_icmp .ge 33, 3), (25, .iload_n 2, 1), (26, .ifCond .eq 29, 3), (29, .aload_n 0, 1), (30, .getfield 11, 3), (33, .iload_n 3, 1), (34, .aaload, 1), (35, .getfield 102, 3), (38, .iload_n 1, 1), (39, .iaload, 1), (40, .ifCond .lt 7, 3), (43, .iconst 1, 1), (44, .goto 4, 3), (47, .iconst 0, 1), (48, .istore_n 2, 1), (49, .iinc 3 1, 3), (52, .goto (-35), 3), (55, .iload_n 2, 1), (56, .ifCond .eq 23, 3), (59, .aload_n 0, 1), (60, .getfield 27, 3), (63, .aload_n 0, 1), (64, .getfield 31, 3), (67, .iload_n 1, 1), (68, .iastore, 1), (69, .aload_n 0, 1), (70, .dup, 1), (71, .getfield 31, 3), (74, .iconst 1, 1), (75, .iadd, 1), (76, .putfield 31, 3), (79, .iinc 1 1, 3), (82, .goto (-75), 3), (85, .return_, 1)]
theorem oX0_findCommonPlaces_0 : okC cX0_findCommonPlaces eX0_findCommonPlaces_0 = true := by decide +kernel
theorem dX0_findCommonPlaces_0 : decode cX0_findCommonPlaces 0 = .ok (.aload_n 0, 1) := dOf oX0_findCommonPlaces_0 0 rfl
theorem dX0_findCommonPlaces_1 : decode cX0_findCommonPlaces 1 = .ok (.iconst 0, 1) := dOf oX0_findCommonPlaces_0 1 rfl
theorem dX0_findCommonPlaces_2 : decode cX0_findCommonPlaces 2 = .ok (.putfield 31, 3) := dOf oX0_findCommonPlaces_0 2 rfl
theorem dX0_findCommonPlaces_5 : decode cX0_findCommonPlaces 5 = .ok (.iconst 0, 1) := dOf oX0_findCommonPlaces_0 3 rfl
theorem dX0_findCommonPlaces_6 : decode cX0_findCommonPlaces 6 = .ok (.istore_n 1, 1) := dOf oX0_findCommonPlaces_0 4 rfl
theorem dX0_findCommonPlaces_7 : decode cX0_findCommonPlaces 7 = .ok (.iload_n 1, 1) := dOf oX0_findCommonPlaces_0 5 rfl
theorem dX0_findCommonPlaces_8 : decode cX0_findCommonPlaces 8 = .ok (.bipush 40, 2) := dOf oX0_findCommonPlaces_0 6 rfl
theorem dX0_findCommonPlaces_10 : decode cX0_findCommonPlaces 10 = .ok (.if_icmp .ge 75, 3) := dOf oX0_findCommonPlaces_0 7 rfl
theorem dX0_findCommonPlaces_13 : decode cX0_findCommonPlaces 13 = .ok (.iconst 1, 1) := dOf oX0_findCommonPlaces_0 8 rfl
theorem dX0_findCommonPlaces_14 : decode cX0_findCommonPlaces 14 = .ok (.istore_n 2, 1) := dOf oX0_findCommonPlaces_0 9 rfl
theorem dX0_findCommonPlaces_15 : decode cX0_findCommonPlaces 15 = .ok (.iconst 0, 1) := dOf oX0_findCommonPlaces_0 10 rfl
theorem dX0_findCommonPlaces_16 : decode cX0_findCommonPlaces 16 = .ok (.istore_n 3, 1) := dOf oX0_findCommonPlaces_0 11 rfl
theorem dX0_findCommonPlaces_17 : decode cX0_findCommonPlaces 17 = .ok (.iload_n 3, 1) := dOf oX0_findCommonPlaces_0 12 rfl
theorem dX0_findCommonPlaces_18 : decode cX0_findCommonPlaces 18 = .ok (.aload_n 0, 1) := dOf oX0_findCommonPlaces_0 13 rfl
theorem dX0_findCommonPlaces_19 : decode cX0_findCommonPlaces 19 = .ok (.getfield 17, 3) := dOf oX0_findCommonPlaces_0 14 rfl
theorem dX0_findCommonPlaces_22 : decode cX0_findCommonPlaces 22 = .ok (.if_icmp .ge 33, 3) := dOf oX0_findCommonPlaces_0 15 rfl
theorem dX0_findCommonPlaces_25 : decode cX0_findCommonPlaces 25 = .ok (.iload_n 2, 1) := dOf oX0_findCommonPlaces_0 16 rfl
theorem dX0_findCommonPlaces_26 : decode cX0_findCommonPlaces 26 = .ok (.ifCond .eq 29, 3) := dOf oX0_findCommonPlaces_0 17 rfl
theorem dX0_findCommonPlaces_29 : decode cX0_findCommonPlaces 29 = .ok (.aload_n 0, 1) := dOf oX0_findCommonPlaces_0 18 rfl
theorem dX0_findCommonPlaces_30 : decode cX0_findCommonPlaces 30 = .ok (.getfield 11, 3) := dOf oX0_findCommonPlaces_0 19 rfl
theorem dX0_findCommonPlaces_33 : decode cX0_findCommonPlaces 33 = .ok (.iload_n 3, 1) := dOf oX0_findCommonPlaces_0 20 rfl
theorem dX0_findCommonPlaces_34 : decode cX0_findCommonPlaces 34 = .ok (.aaload, 1) := dOf oX0_findCommonPlaces_0 21 rfl
theorem dX0_findCommonPlaces_35 : decode cX0_findCommonPlaces 35 = .ok (.getfield 102, 3) := dOf oX0_findCommonPlaces_0 22 rfl
theorem dX0_findCommonPlaces_38 : decode cX0_findCommonPlaces 38 = .ok (.iload_n 1, 1) := dOf oX0_findCommonPlaces_0 23 rfl
theorem dX0_findCommonPlaces_39 : decode cX0_findCommonPlaces 39 = .ok (.iaload, 1) := dOf oX0_findCommonPlaces_0 24 rfl
theorem dX0_findCommonPlaces_40 : decode cX0_findCommonPlaces 40 = .ok (.ifCond .lt 7, 3) := dOf oX0_findCommonPlaces_0 25 rfl
theorem dX0_findCommonPlaces_43 : decode cX0_findCommonPlaces 43 = .ok (.iconst 1, 1) := dOf oX0_findCommonPlaces_0 26 rfl
theorem dX0_findCommonPlaces_44 : decode cX0_findCommonPlaces 44 = .ok (.goto 4, 3) := dOf oX0_findCommonPlaces_0 27 rfl
theorem dX0_findCommonPlaces_47 : decode cX0_findCommonPlaces 47 = .ok (.iconst 0, 1) := dOf oX0_findCommonPlaces_0 28 rfl
theorem dX0_findCommonPlaces_48 : decode cX0_findCommonPlaces 48 = .ok (.istore_n 2, 1) := dOf oX0_findCommonPlaces_0 29 rfl
theorem dX0_findCommonPlaces_49 : decode cX0_findCommonPlaces 49 = .ok (.iinc 3 1, 3) := dOf oX0_findCommonPlaces_0 30 rfl
theorem dX0_findCommonPlaces_52 : decode cX0_findCommonPlaces 52 = .ok (.goto (-35), 3) := dOf oX0_findCommonPlaces_0 31 rfl
theorem dX0_findCommonPlaces_55 : decode cX0_findCommonPlaces 55 = .ok (.iload_n 2, 1) := dOf oX0_findCommonPlaces_0 32 rfl
theorem dX0_findCommonPlaces_56 : decode cX0_findCommonPlaces 56 = .ok (.ifCond .eq 23, 3) := dOf oX0_findCommonPlaces_0 33 rfl
theorem dX0_findCommonPlaces_59 : decode cX0_findCommonPlaces 59 = .ok (.aload_n 0, 1) := dOf oX0_findCommonPlaces_0 34 rfl
theorem dX0_findCommonPlaces_60 : decode cX0_findCommonPlaces 60 = .ok (.getfield 27, 3) := dOf oX0_findCommonPlaces_0 35 rfl
theorem dX0_findCommonPlaces_63 : decode cX0_findCommonPlaces 63 = .ok (.aload_n 0, 1) := dOf oX0_findCommonPlaces_0 36 rfl
theorem dX0_findCommonPlaces_64 : decode cX0_findCommonPlaces 64 = .ok (.getfield 31, 3) := dOf oX0_findCommonPlaces_0 37 rfl
theorem dX0_findCommonPlaces_67 : decode cX0_findCommonPlaces 67 = .ok (.iload_n 1, 1) := dOf oX0_findCommonPlaces_0 38 rfl
theorem dX0_findCommonPlaces_68 : decode cX0_findCommonPlaces 68 = .ok (.iastore, 1) := dOf oX0_findCommonPlaces_0 39 rfl
theorem dX0_findCommonPlaces_69 : decode cX0_findCommonPlaces 69 = .ok (.aload_n 0, 1) := dOf oX0_findCommonPlaces_0 40 rfl
theorem dX0_findCommonPlaces_70 : decode cX0_findCommonPlaces 70 = .ok (.dup, 1) := dOf oX0_findCommonPlaces_0 41 rfl
theorem dX0_findCommonPlaces_71 : decode cX0_findCommonPlaces 71 = .ok (.getfield 31, 3) := dOf oX0_findCommonPlaces_0 42 rfl
theorem dX0_findCommonPlaces_74 : decode cX0_findCommonPlaces 74 = .ok (.iconst 1, 1) := dOf oX0_findCommonPlaces_0 43 rfl
theorem dX0_findCommonPlaces_75 : decode cX0_findCommonPlaces 75 = .ok (.iadd, 1) := dOf oX0_findCommonPlaces_0 44 rfl
theorem dX0_findCommonPlaces_76 : decode cX0_findCommonPlaces 76 = .ok (.putfield 31, 3) := dOf oX0_findCommonPlaces_0 45 rfl
theorem dX0_findCommonPlaces_79 : decode cX0_findCommonPlaces 79 = .ok (.iinc 1 1, 3) := dOf oX0_findCommonPlaces_0 46 rfl
theorem dX0_findCommonPlaces_82 : decode cX0_findCommonPlaces 82 = .ok (.goto (-75), 3) := dOf oX0_findCommonPlaces_0 47 rfl
theorem dX0_findCommonPlaces_85 : decode cX0_findCommonPlaces 85 = .ok (.return_, 1) := dOf oX0_findCommonPlaces_0 48 rfl
def eX0_addCuts_0 : List (Nat × Instr × Nat) := [(0, .bipush 63, 2), (2, .istore_n 3, 1), (3, .iconst 0, 1), (4, .istore 4, 2), (6, .iconst 0, 1), (7, .istore 5, 2), (9, .iload 5, 2), (11, .aload_n 0, 1), (12, .getfield 17, 3), (15, .if_icmp .ge 58, 3), (18, .aload_n 0, 1), (19, .getfield 11, 3), (22, .iload 5, 2), (24, .aaload, 1), (25, .astore 6, 2), (27, .iload_n 3, 1), (28, .aload 6, 2), (30, .iload_n 1, 1), (31, .iload_n 2, 1), (32, .invokevirtual 105, 3), (35, .iand, 1), (36, .istore_n 3, 1), (37, .iload_n 3, 1), (38, .ifCond .ne 4, 3), (41, .return_, 1), (42, .iload 4, 2), (44, .aload 6, 2), (46, .getfield 102, 3), (49, .iload_n 2, 1), (50, .iaload, 1), (51, .aload 6, 2), (53, .getfield 102, 3), (56, .iload_n 1, 1), (57, .iaload, 1), (58, .isub, 1), (59, .iconst 4, 1), (60, .iload 5, 2), (62, .imul, 1), (63, .ishl, 1), (64, .ior, 1), (65, .istore 4, 2), (67, .iinc 5 1, 3), (70, .goto (-61), 3), (73, .bipush 120, 2), (75, .iload_n 1, 1), (76, .imul, 1), (77, .iconst 3, 1), (78, .iload_n 2, 1), (79, .imul, 1), (80, .iadd, 1), (81, .istore 5, 2), (83, .iconst 0, 1), (84, .istore 6, 2), (86, .iload 6, 2), (88, .iconst 3, 1), (89, .if_icmp .ge 70, 3), (92, .iload_n 3, 1), (93, .iload 6, 2), (95, .ishr, 1), (96, .iconst 1, 1)]
theorem oX0_addCuts_0 : okC cX0_addCuts eX0_addCuts_0 = true := by decide +kernel
theorem dX0_addCuts_0 : decode cX0_addCuts 0 = .ok (.bipush 63, 2) := dOf oX0_addCuts_0 0 rfl
theorem dX0_addCuts_2 : decode cX0_addCuts 2 = .ok (.istore_n 3, 1) := dOf oX0_addCuts_0 1 rfl
theorem dX0_addCuts_3 : decode cX0_addCuts 3 = .ok (.iconst 0, 1) := dOf oX0_addCuts_0 2 rfl
theorem dX0_addCuts_4 : decode cX0_addCuts 4 = .ok (.istore 4, 2) := dOf oX0_addCuts_0 3 rfl
theorem dX0_addCuts_6 : decode cX0_addCuts 6 = .ok (.iconst 0, 1) := dOf oX0_addCuts_0 4 rfl
theorem dX0_addCuts_7 : decode cX0_addCuts 7 = .ok (.istore 5, 2) := dOf oX0_addCuts_0 5 rfl
theorem dX0_addCuts_9 : decode cX0_addCuts 9 = .ok (.iload 5, 2) := dOf oX0_addCuts_0 6 rfl
theorem dX0_addCuts_11 : decode cX0_addCuts 11 = .ok (.aload_n 0, 1) := dOf oX0_addCuts_0 7 rfl
theorem dX0_addCuts_12 : decode cX0_addCuts 12 = .ok (.getfield 17, 3) := dOf oX0_addCuts_0 8 rfl
theorem dX0_addCuts_15 : decode cX0_addCuts 15 = .ok (.if_icmp .ge 58, 3) := dOf oX0_addCuts_0 9 rfl
theorem dX0_addCuts_18 : decode cX0_addCuts 18 = .ok (.aload_n 0, 1) := dOf oX0_addCuts_0 10 rfl
theorem dX0_addCuts_19 : decode cX0_addCuts 19 = .ok (.getfield 11, 3) := dOf oX0_addCuts_0 11 rfl
theorem dX0_addCuts_22 : decode cX0_addCuts 22 = .ok (.iload 5, 2) := dOf oX0_addCuts_0 12 rfl
theorem dX0_addCuts_24 : decode cX0_addCuts 24 = .ok (.aaload, 1) := dOf oX0_addCuts_0 13 rfl
theorem dX0_addCuts_25 : decode cX0_addCuts 25 = .ok (.astore 6, 2) := dOf oX0_addCuts_0 14 rfl
theorem dX0_addCuts_27 : decode cX0_addCuts 27 = .ok (.iload_n 3, 1) := dOf oX0_addCuts_0 15 rfl
theorem dX0_addCuts_28 : decode cX0_addCuts 28 = .ok (.aload 6, 2) := dOf oX0_addCuts_0 16 rfl
theorem dX0_addCuts_30 : decode cX0_addCuts 30 = .ok (.iload_n 1, 1) := dOf oX0_addCuts_0 17 rfl
theorem dX0_addCuts_31 : decode cX0_addCuts 31 = .ok (.iload_n 2, 1) := dOf oX0_addCuts_0 18 rfl
theorem dX0_addCuts_32 : decode cX0_addCuts 32 = .ok (.invokevirtual 105, 3) := dOf oX0_addCuts_0 19 rfl
theorem dX0_addCuts_35 : decode cX0_addCuts 35 = .ok (.iand, 1) := dOf oX0_addCuts_0 20 rfl
theorem dX0_addCuts_36 : decode cX0_addCuts 36 = .ok (.istore_n 3, 1) := dOf oX0_addCuts_0 21 rfl
theorem dX0_addCuts_37 : decode cX0_addCuts 37 = .ok (.iload_n 3, 1) := dOf oX0_addCuts_0 22 rfl
theorem dX0_addCuts_38 : decode cX0_addCuts 38 = .ok (.ifCond .ne 4, 3) := dOf oX0_addCuts_0 23 rfl
theorem dX0_addCuts_41 : decode cX0_addCuts 41 = .ok (.return_, 1) := dOf oX0_addCuts_0 24 rfl
theorem dX0_addCuts_42 : decode cX0_addCuts 42 = .ok (.iload 4, 2) := dOf oX0_addCuts_0 25 rfl
theorem dX0_addCuts_44 : decode cX0_addCuts 44 = .ok (.aload 6, 2) := dOf oX0_addCuts_0 26 rfl
theorem dX0_addCuts_46 : decode cX0_addCuts 46 = .ok (.getfield 102, 3) := dOf oX0_addCuts_0 27 rfl
theorem dX0_addCuts_49 : decode cX0_addCuts 49 = .ok (.iload_n 2, 1) := dOf oX0_addCuts_0 28 rfl
theorem dX0_addCuts_50 : decode cX0_addCuts 50 = .ok (.iaload, 1) := dOf oX0_addCuts_0 29 rfl
theorem dX0_addCuts_51 : decode cX0_addCuts 51 = .ok (.aload 6, 2) := dOf oX0_addCuts_0 30 rfl
theorem dX0_addCuts_53 : decode cX0_addCuts 53 = .ok (.getfield 102, 3) := dOf oX0_addCuts_0 31 rfl
theorem dX0_addCuts_56 : decode cX0_addCuts 56 = .ok (.iload_n 1, 1) := dOf oX0_addCuts_0 32 rfl
theorem dX0_addCuts_57 : decode cX0_addCuts 57 = .ok (.iaload, 1) := dOf oX0_addCuts_0 33 rfl
theorem dX0_addCuts_58 : decode cX0_addCuts 58 = .ok (.isub, 1) := dOf oX0_addCuts_0 34 rfl
theorem dX0_addCuts_59 : decode cX0_addCuts 59 = .ok (.iconst 4, 1) := dOf oX0_addCuts_0 35 rfl
theorem dX0_addCuts_60 : decode cX0_addCuts 60 = .ok (.iload 5, 2) := dOf oX0_addCuts_0 36 rfl
theorem dX0_addCuts_62 : decode cX0_addCuts 62 = .ok (.imul, 1) := dOf oX0_addCuts_0 37 rfl
theorem dX0_addCuts_63 : decode cX0_addCuts 63 = .ok (.ishl, 1) := dOf oX0_addCuts_0 38 rfl
theorem dX0_addCuts_64 : decode cX0_addCuts 64 = .ok (.ior, 1) := dOf oX0_addCuts_0 39 rfl
theorem dX0_addCuts_65 : decode cX0_addCuts 65 = .ok (.istore 4, 2) := dOf oX0_addCuts_0 40 rfl
theorem dX0_addCuts_67 : decode cX0_addCuts 67 = .ok (.iinc 5 1, 3) := dOf oX0_addCuts_0 41 rfl
theorem dX0_addCuts_70 : decode cX0_addCuts 70 = .ok (.goto (-61), 3) := dOf oX0_addCuts_0 42 rfl
theorem dX0_addCuts_73 : decode cX0_addCuts 73 = .ok (.bipush 120, 2) := dOf oX0_addCuts_0 43 rfl
theorem dX0_addCuts_75 : decode cX0_addCuts 75 = .ok (.iload_n 1, 1) := dOf oX0_addCuts_0 44 rfl
theorem dX0_addCuts_76 : decode cX0_addCuts 76 = .ok (.imul, 1) := dOf oX0_addCuts_0 45 rfl
theorem dX0_addCuts_77 : decode cX0_addCuts 77 = .ok (.iconst 3, 1) := dOf oX0_addCuts_0 46 rfl
theorem dX0_addCuts_78 : decode cX0_addCuts 78 = .ok (.iload_n 2, 1) := dOf oX0_addCuts_0 47 rfl
theorem dX0_addCuts_79 : decode cX0_addCuts 79 = .ok (.imul, 1) := dOf oX0_addCuts_0 48 rfl
theorem dX0_addCuts_80 : decode cX0_addCuts 80 = .ok (.iadd, 1) := dOf oX0_addCuts_0 49 rfl
theorem dX0_addCuts_81 : decode cX0_addCuts 81 = .ok (.istore 5, 2) := dOf oX0_addCuts_0 50 rfl
theorem dX0_addCuts_83 : decode cX0_addCuts 83 = .ok (.iconst 0, 1) := dOf oX0_addCuts_0 51 rfl
theorem dX0_addCuts_84 : decode cX0_addCuts 84 = .ok (.istore 6, 2) := dOf oX0_addCuts_0 52 rfl
theorem dX0_addCuts_86 : decode cX0_addCuts 86 = .ok (.iload 6, 2) := dOf oX0_addCuts_0 53 rfl
theorem dX0_addCuts_88 : decode cX0_addCuts 88 = .ok (.iconst 3, 1) := dOf oX0_addCuts_0 54 rfl
theorem dX0_addCuts_89 : decode cX0_addCuts 89 = .ok (.if_icmp .ge 70, 3) := dOf oX0_addCuts_0 55 rfl
theorem dX0_addCuts_92 : decode cX0_addCuts 92 = .ok (.iload_n 3, 1) := dOf oX0_addCuts_0 56 rfl
theorem dX0_addCuts_93 : decode cX0_addCuts 93 = .ok (.iload 6, 2) := dOf oX0_addCuts_0 57 rfl
theorem dX0_addCuts_95 : decode cX0_addCuts 95 = .ok (.ishr, 1) := dOf oX0_addCuts_0 58 rfl
theorem dX0_addCuts_96 : decode cX0_addCuts 96 = .ok (.iconst 1, 1) := dOf oX0_addCuts_0 59 rfl
def eX0_addCuts_1 : List (Nat × Instr × Nat) := [(97, .iand, 1), (98, .iconst 1, 1), (99, .if_icmp .ne 14, 3), (102, .aload_n 0, 1), (103, .iload 5, 2), (105, .iload 6, 2), (107, .iadd, 1), (108, .iload 4, 2), (110, .invokevirtual 109, 3), (113, .iload_n 3, 1), (114, .iconst 3, 1), (115, .iload 6, 2), (117, .iadd, 1), (118, .ishr, 1), (119, .iconst 1, 1), (120, .iand, 1), (121, .iconst 1, 1), (122, .if_icmp .ne 31, 3), (125, .iload 4, 2), (127, .aload_n 0, 1), (128, .getfield 21, 3), (131, .if_icmp .eq 22, 3), (134, .aload_n 0, 1), (135, .getfield 50, 3), (138, .aload_n 0, 1), (139, .getfield 21, 3), (142, .iload 4, 2), (144, .isub, 1), (145, .iload 5, 2), (147, .iload 6, 2), (149, .iadd, 1), (150, .invokevirtual 112, 3), (153, .iinc 6 1, 3), (156, .goto (-70), 3), (159, .return_, 1)]
theorem oX0_addCuts_1 : okC cX0_addCuts eX0_addCuts_1 = true := by decide +kernel
theorem dX0_addCuts_97 : decode cX0_addCuts 97 = .ok (.iand, 1) := dOf oX0_addCuts_1 0 rfl
theorem dX0_addCuts_98 : decode cX0_addCuts 98 = .ok (.iconst 1, 1) := dOf oX0_addCuts_1 1 rfl
theorem dX0_addCuts_99 : decode cX0_addCuts 99 = .ok (.if_icmp .ne 14, 3) := dOf oX0_addCuts_1 2 rfl
theorem dX0_addCuts_102 : decode cX0_addCuts 102 = .ok (.aload_n 0, 1) := dOf oX0_addCuts_1 3 rfl
theorem dX0_addCuts_103 : decode cX0_addCuts 103 = .ok (.iload 5, 2) := dOf oX0_addCuts_1 4 rfl
theorem dX0_addCuts_105 : decode cX0_addCuts 105 = .ok (.iload 6, 2) := dOf oX0_addCuts_1 5 rfl
theorem dX0_addCuts_107 : decode cX0_addCuts 107 = .ok (.iadd, 1) := dOf oX0_addCuts_1 6 rfl
theorem dX0_addCuts_108 : decode cX0_addCuts 108 = .ok (.iload 4, 2) := dOf oX0_addCuts_1 7 rfl
theorem dX0_addCuts_110 : decode cX0_addCuts 110 = .ok (.invokevirtual 109, 3) := dOf oX0_addCuts_1 8 rfl
theorem dX0_addCuts_113 : decode cX0_addCuts 113 = .ok (.iload_n 3, 1) := dOf oX0_addCuts_1 9 rfl
theorem dX0_addCuts_114 : decode cX0_addCuts 114 = .ok (.iconst 3, 1) := dOf oX0_addCuts_1 10 rfl
theorem dX0_addCuts_115 : decode cX0_addCuts 115 = .ok (.iload 6, 2) := dOf oX0_addCuts_1 11 rfl
theorem dX0_addCuts_117 : decode cX0_addCuts 117 = .ok (.iadd, 1) := dOf oX0_addCuts_1 12 rfl
theorem dX0_addCuts_118 : decode cX0_addCuts 118 = .ok (.ishr, 1) := dOf oX0_addCuts_1 13 rfl
theorem dX0_addCuts_119 : decode cX0_addCuts 119 = .ok (.iconst 1, 1) := dOf oX0_addCuts_1 14 rfl
theorem dX0_addCuts_120 : decode cX0_addCuts 120 = .ok (.iand, 1) := dOf oX0_addCuts_1 15 rfl
theorem dX0_addCuts_121 : decode cX0_addCuts 121 = .ok (.iconst 1, 1) := dOf oX0_addCuts_1 16 rfl
theorem dX0_addCuts_122 : decode cX0_addCuts 122 = .ok (.if_icmp .ne 31, 3) := dOf oX0_addCuts_1 17 rfl
theorem dX0_addCuts_125 : decode cX0_addCuts 125 = .ok (.iload 4, 2) := dOf oX0_addCuts_1 18 rfl
theorem dX0_addCuts_127 : decode cX0_addCuts 127 = .ok (.aload_n 0, 1) := dOf oX0_addCuts_1 19 rfl
theorem dX0_addCuts_128 : decode cX0_addCuts 128 = .ok (.getfield 21, 3) := dOf oX0_addCuts_1 20 rfl
theorem dX0_addCuts_131 : decode cX0_addCuts 131 = .ok (.if_icmp .eq 22, 3) := dOf oX0_addCuts_1 21 rfl
theorem dX0_addCuts_134 : decode cX0_addCuts 134 = .ok (.aload_n 0, 1) := dOf oX0_addCuts_1 22 rfl
theorem dX0_addCuts_135 : decode cX0_addCuts 135 = .ok (.getfield 50, 3) := dOf oX0_addCuts_1 23 rfl
theorem dX0_addCuts_138 : decode cX0_addCuts 138 = .ok (.aload_n 0, 1) := dOf oX0_addCuts_1 24 rfl
theorem dX0_addCuts_139 : decode cX0_addCuts 139 = .ok (.getfield 21, 3) := dOf oX0_addCuts_1 25 rfl
theorem dX0_addCuts_142 : decode cX0_addCuts 142 = .ok (.iload 4, 2) := dOf oX0_addCuts_1 26 rfl
theorem dX0_addCuts_144 : decode cX0_addCuts 144 = .ok (.isub, 1) := dOf oX0_addCuts_1 27 rfl
theorem dX0_addCuts_145 : decode cX0_addCuts 145 = .ok (.iload 5, 2) := dOf oX0_addCuts_1 28 rfl
theorem dX0_addCuts_147 : decode cX0_addCuts 147 = .ok (.iload 6, 2) := dOf oX0_addCuts_1 29 rfl
theorem dX0_addCuts_149 : decode cX0_addCuts 149 = .ok (.iadd, 1) := dOf oX0_addCuts_1 30 rfl
theorem dX0_addCuts_150 : decode cX0_addCuts 150 = .ok (.invokevirtual 112, 3) := dOf oX0_addCuts_1 31 rfl
theorem dX0_addCuts_153 : decode cX0_addCuts 153 = .ok (.iinc 6 1, 3) := dOf oX0_addCuts_1 32 rfl
theorem dX0_addCuts_156 : decode cX0_addCuts 156 = .ok (.goto (-70), 3) := dOf oX0_addCuts_1 33 rfl
theorem dX0_addCuts_159 : decode cX0_addCuts 159 = .ok (.return_, 1) := dOf oX0_addCuts_1 34 rfl
def eX0_addTyped_0 : List (Nat × Instr × Nat) := [(0, .aload_n 0, 1), (1, .iconst 0, 1), (2, .iload_n 1, 1), (3, .invokevirtual 115, 3), (6, .istore_n 2, 1), (7, .iload_n 2, 1), (8, .bipush (-4), 2), (10, .if_icmp .eq 14, 3), (13, .aload_n 0, 1), (14, .iload_n 2, 1), (15, .iload_n 1, 1), (16, .aload_n 0, 1), (17, .getfield 24, 3), (20, .imul, 1), (21, .invokevirtual 109, 3), (24, .iload_n 1, 1), (25, .aload_n 0, 1), (26, .invokevirtual 118, 3), (29, .if_icmp .ge 37, 3), (32, .aload_n 0, 1), (33, .getfield 21, 3), (36, .iload_n 1, 1), (37, .aload_n 0, 1), (38, .getfield 24, 3), (41, .imul, 1), (42, .isub, 1), (43, .istore_n 3, 1), (44, .aload_n 0, 1), (45, .iload_n 3, 1), (46, .iload_n 1, 1), (47, .invokevirtual 115, 3), (50, .istore_n 2, 1), (51, .iload_n 2, 1), (52, .bipush (-4), 2), (54, .if_icmp .eq 12, 3), (57, .aload_n 0, 1), (58, .getfield 50, 3), (61, .iload_n 3, 1), (62, .iload_n 2, 1), (63, .invokevirtual 112, 3), (66, .return_, 1)]
theorem oX0_addTyped_0 : okC cX0_addTyped eX0_addTyped_0 = true := by decide +kernel
theorem dX0_addTyped_0 : decode cX0_addTyped 0 = .ok (.aload_n 0, 1) := dOf oX0_addTyped_0 0 rfl
theorem dX0_addTyped_1 : decode cX0_addTyped 1 = .ok (.iconst 0, 1) := dOf oX0_addTyped_0 1 rfl
theorem dX0_addTyped_2 : decode cX0_addTyped 2 = .ok (.iload_n 1, 1) := dOf oX0_addTyped_0 2 rfl
theorem dX0_addTyped_3 : decode cX0_addTyped 3 = .ok (.invokevirtual 115, 3) := dOf oX0_addTyped_0 3 rfl
theorem dX0_addTyped_6 : decode cX0_addTyped 6 = .ok (.istore_n 2, 1) := dOf oX0_addTyped_0 4 rfl
theorem dX0_addTyped_7 : decode cX0_addTyped 7 = .ok (.iload_n 2, 1) := dOf oX0_addTyped_0 5 rfl
theorem dX0_addTyped_8 : decode cX0_addTyped 8 = .ok (.bipush (-4), 2) := dOf oX0_addTyped_0 6 rfl
theorem dX0_addTyped_10 : decode cX0_addTyped 10 = .ok (.if_icmp .eq 14, 3) := dOf oX0_addTyped_0 7 rfl
theorem dX0_addTyped_13 : decode cX0_addTyped 13 = .ok (.aload_n 0, 1) := dOf oX0_addTyped_0 8 rfl
theorem dX0_addTyped_14 : decode cX0_addTyped 14 = .ok (.iload_n 2, 1) := dOf oX0_addTyped_0 9 rfl
theorem dX0_addTyped_15 : decode cX0_addTyped 15 = .ok (.iload_n 1, 1) := dOf oX0_addTyped_0 10 rfl
theorem dX0_addTyped_16 : decode cX0_addTyped 16 = .ok (.aload_n 0, 1) := dOf oX0_addTyped_0 11 rfl
theorem dX0_addTyped_17 : decode cX0_addTyped 17 = .ok (.getfield 24, 3) := dOf oX0_addTyped_0 12 rfl
theorem dX0_addTyped_20 : decode cX0_addTyped 20 = .ok (.imul, 1) := dOf oX0_addTyped_0 13 rfl
theorem dX0_addTyped_21 : decode cX0_addTyped 21 = .ok (.invokevirtual 109, 3) := dOf oX0_addTyped_0 14 rfl
theorem dX0_addTyped_24 : decode cX0_addTyped 24 = .ok (.iload_n 1, 1) := dOf oX0_addTyped_0 15 rfl
theorem dX0_addTyped_25 : decode cX0_addTyped 25 = .ok (.aload_n 0, 1) := dOf oX0_addTyped_0 16 rfl
theorem dX0_addTyped_26 : decode cX0_addTyped 26 = .ok (.invokevirtual 118, 3) := dOf oX0_addTyped_0 17 rfl
theorem dX0_addTyped_29 : decode cX0_addTyped 29 = .ok (.if_icmp .ge 37, 3) := dOf oX0_addTyped_0 18 rfl
theorem dX0_addTyped_32 : decode cX0_addTyped 32 = .ok (.aload_n 0, 1) := dOf oX0_addTyped_0 19 rfl
theorem dX0_addTyped_33 : decode cX0_addTyped 33 = .ok (.getfield 21, 3) := dOf oX0_addTyped_0 20 rfl
theorem dX0_addTyped_36 : decode cX0_addTyped 36 = .ok (.iload_n 1, 1) := dOf oX0_addTyped_0 21 rfl
theorem dX0_addTyped_37 : decode cX0_addTyped 37 = .ok (.aload_n 0, 1) := dOf oX0_addTyped_0 22 rfl
theorem dX0_addTyped_38 : decode cX0_addTyped 38 = .ok (.getfield 24, 3) := dOf oX0_addTyped_0 23 rfl
theorem dX0_addTyped_41 : decode cX0_addTyped 41 = .ok (.imul, 1) := dOf oX0_addTyped_0 24 rfl
theorem dX0_addTyped_42 : decode cX0_addTyped 42 = .ok (.isub, 1) := dOf oX0_addTyped_0 25 rfl
theorem dX0_addTyped_43 : decode cX0_addTyped 43 = .ok (.istore_n 3, 1) := dOf oX0_addTyped_0 26 rfl
theorem dX0_addTyped_44 : decode cX0_addTyped 44 = .ok (.aload_n 0, 1) := dOf oX0_addTyped_0 27 rfl
theorem dX0_addTyped_45 : decode cX0_addTyped 45 = .ok (.iload_n 3, 1) := dOf oX0_addTyped_0 28 rfl
theorem dX0_addTyped_46 : decode cX0_addTyped 46 = .ok (.iload_n 1, 1) := dOf oX0_addTyped_0 29 rfl
theorem dX0_addTyped_47 : decode cX0_addTyped 47 = .ok (.invokevirtual 115, 3) := dOf oX0_addTyped_0 30 rfl
theorem dX0_addTyped_50 : decode cX0_addTyped 50 = .ok (.istore_n 2, 1) := dOf oX0_addTyped_0 31 rfl
theorem dX0_addTyped_51 : decode cX0_addTyped 51 = .ok (.iload_n 2, 1) := dOf oX0_addTyped_0 32 rfl
theorem dX0_addTyped_52 : decode cX0_addTyped 52 = .ok (.bipush (-4), 2) := dOf oX0_addTyped_0 33 rfl
theorem dX0_addTyped_54 : decode cX0_addTyped 54 = .ok (.if_icmp .eq 12, 3) := dOf oX0_addTyped_0 34 rfl
theorem dX0_addTyped_57 : decode cX0_addTyped 57 = .ok (.aload_n 0, 1) := dOf oX0_addTyped_0 35 rfl
theorem dX0_addTyped_58 : decode cX0_addTyped 58 = .ok (.getfield 50, 3) := dOf oX0_addTyped_0 36 rfl
theorem dX0_addTyped_61 : decode cX0_addTyped 61 = .ok (.iload_n 3, 1) := dOf oX0_addTyped_0 37 rfl
theorem dX0_addTyped_62 : decode cX0_addTyped 62 = .ok (.iload_n 2, 1) := dOf oX0_addTyped_0 38 rfl
theorem dX0_addTyped_63 : decode cX0_addTyped 63 = .ok (.invokevirtual 112, 3) := dOf oX0_addTyped_0 39 rfl
theorem dX0_addTyped_66 : decode cX0_addTyped 66 = .ok (.return_, 1) := dOf oX0_addTyped_0 40 rfl
def eX0_addFirst_0 : List (Nat × Instr × Nat) := [(0, .iload_n 2, 1), (1, .aload_n 0, 1), (2, .getfield 21, 3), (5, .if_icmp .ne 36, 3), (8, .aload_n 0, 1), (9, .getfield 57, 3), (12, .sipush 4803, 3), (15, .if_icmp .ge 26, 3), (18, .aload_n 0, 1), (19, .getfield 54, 3), (22, .aload_n 0, 1), (23, .getfield 57, 3), (26, .iload_n 1, 1), (27, .iastore, 1), (28, .aload_n 0, 1), (29, .dup, 1), (30, .getfield 57, 3), (33, .iconst 1, 1), (34, .iadd, 1), (35, .putfield 57, 3), (38, .goto 51, 3), (41, .iload_n 2, 1), (42, .aload_n 0, 1), (43, .getfield 21, 3), (46, .if_icmp .eq 43, 3), (49, .aload_n 0, 1), (50, .getfield 46, 3), (53, .sipush 4803, 3), (56, .if_icmp .ge 33, 3), (59, .aload_n 0, 1), (60, .getfield 36, 3), (63, .aload_n 0, 1), (64, .getfield 46, 3), (67, .iload_n 1, 1), (68, .iastore, 1), (69, .aload_n 0, 1), (70, .getfield 39, 3), (73, .aload_n 0, 1), (74, .getfield 46, 3), (77, .iload_n 2, 1), (78, .iastore, 1), (79, .aload_n 0, 1), (80, .dup, 1), (81, .getfield 46, 3), (84, .iconst 1, 1), (85, .iadd, 1), (86, .putfield 46, 3), (89, .return_, 1)]
theorem oX0_addFirst_0 : okC cX0_addFirst eX0_addFirst_0 = true := by decide +kernel
theorem dX0_addFirst_0 : decode cX0_addFirst 0 = .ok (.iload_n 2, 1) := dOf oX0_addFirst_0 0 rfl
theorem dX0_addFirst_1 : decode cX0_addFirst 1 = .ok (.aload_n 0, 1) := dOf oX0_addFirst_0 1 rfl
theorem dX0_addFirst_2 : decode cX0_addFirst 2 = .ok (.getfield 21, 3) := dOf oX0_addFirst_0 2 rfl
theorem dX0_addFirst_5 : decode cX0_addFirst 5 = .ok (.if_icmp .ne 36, 3) := dOf oX0_addFirst_0 3 rfl
theorem dX0_addFirst_8 : decode cX0_addFirst 8 = .ok (.aload_n 0, 1) := dOf oX0_addFirst_0 4 rfl
theorem dX0_addFirst_9 : decode cX0_addFirst 9 = .ok (.getfield 57, 3) := dOf oX0_addFirst_0 5 rfl
theorem dX0_addFirst_12 : decode cX0_addFirst 12 = .ok (.sipush 4803, 3) := dOf oX0_addFirst_0 6 rfl
theorem dX0_addFirst_15 : decode cX0_addFirst 15 = .ok (.if_icmp .ge 26, 3) := dOf oX0_addFirst_0 7 rfl
theorem dX0_addFirst_18 : decode cX0_addFirst 18 = .ok (.aload_n 0, 1) := dOf oX0_addFirst_0 8 rfl
theorem dX0_addFirst_19 : decode cX0_addFirst 19 = .ok (.getfield 54, 3) := dOf oX0_addFirst_0 9 rfl
theorem dX0_addFirst_22 : decode cX0_addFirst 22 = .ok (.aload_n 0, 1) := dOf oX0_addFirst_0 10 rfl
theorem dX0_addFirst_23 : decode cX0_addFirst 23 = .ok (.getfield 57, 3) := dOf oX0_addFirst_0 11 rfl
theorem dX0_addFirst_26 : decode cX0_addFirst 26 = .ok (.iload_n 1, 1) := dOf oX0_addFirst_0 12 rfl
theorem dX0_addFirst_27 : decode cX0_addFirst 27 = .ok (.iastore, 1) := dOf oX0_addFirst_0 13 rfl
theorem dX0_addFirst_28 : decode cX0_addFirst 28 = .ok (.aload_n 0, 1) := dOf oX0_addFirst_0 14 rfl
theorem dX0_addFirst_29 : decode cX0_addFirst 29 = .ok (.dup, 1) := dOf oX0_addFirst_0 15 rfl
theorem dX0_addFirst_30 : decode cX0_addFirst 30 = .ok (.getfield 57, 3) := dOf oX0_addFirst_0 16 rfl
theorem dX0_addFirst_33 : decode cX0_addFirst 33 = .ok (.iconst 1, 1) := dOf oX0_addFirst_0 17 rfl
theorem dX0_addFirst_34 : decode cX0_addFirst 34 = .ok (.iadd, 1) := dOf oX0_addFirst_0 18 rfl
theorem dX0_addFirst_35 : decode cX0_addFirst 35 = .ok (.putfield 57, 3) := dOf oX0_addFirst_0 19 rfl
theorem dX0_addFirst_38 : decode cX0_addFirst 38 = .ok (.goto 51, 3) := dOf oX0_addFirst_0 20 rfl
theorem dX0_addFirst_41 : decode cX0_addFirst 41 = .ok (.iload_n 2, 1) := dOf oX0_addFirst_0 21 rfl
theorem dX0_addFirst_42 : decode cX0_addFirst 42 = .ok (.aload_n 0, 1) := dOf oX0_addFirst_0 22 rfl
theorem dX0_addFirst_43 : decode cX0_addFirst 43 = .ok (.getfield 21, 3) := dOf oX0_addFirst_0 23 rfl
theorem dX0_addFirst_46 : decode cX0_addFirst 46 = .ok (.if_icmp .eq 43, 3) := dOf oX0_addFirst_0 24 rfl
theorem dX0_addFirst_49 : decode cX0_addFirst 49 = .ok (.aload_n 0, 1) := dOf oX0_addFirst_0 25 rfl
theorem dX0_addFirst_50 : decode cX0_addFirst 50 = .ok (.getfield 46, 3) := dOf oX0_addFirst_0 26 rfl
theorem dX0_addFirst_53 : decode cX0_addFirst 53 = .ok (.sipush 4803, 3) := dOf oX0_addFirst_0 27 rfl
theorem dX0_addFirst_56 : decode cX0_addFirst 56 = .ok (.if_icmp .ge 33, 3) := dOf oX0_addFirst_0 28 rfl
theorem dX0_addFirst_59 : decode cX0_addFirst 59 = .ok (.aload_n 0, 1) := dOf oX0_addFirst_0 29 rfl
theorem dX0_addFirst_60 : decode cX0_addFirst 60 = .ok (.getfield 36, 3) := dOf oX0_addFirst_0 30 rfl
theorem dX0_addFirst_63 : decode cX0_addFirst 63 = .ok (.aload_n 0, 1) := dOf oX0_addFirst_0 31 rfl
theorem dX0_addFirst_64 : decode cX0_addFirst 64 = .ok (.getfield 46, 3) := dOf oX0_addFirst_0 32 rfl
theorem dX0_addFirst_67 : decode cX0_addFirst 67 = .ok (.iload_n 1, 1) := dOf oX0_addFirst_0 33 rfl
theorem dX0_addFirst_68 : decode cX0_addFirst 68 = .ok (.iastore, 1) := dOf oX0_addFirst_0 34 rfl
theorem dX0_addFirst_69 : decode cX0_addFirst 69 = .ok (.aload_n 0, 1) := dOf oX0_addFirst_0 35 rfl
theorem dX0_addFirst_70 : decode cX0_addFirst 70 = .ok (.getfield 39, 3) := dOf oX0_addFirst_0 36 rfl
theorem dX0_addFirst_73 : decode cX0_addFirst 73 = .ok (.aload_n 0, 1) := dOf oX0_addFirst_0 37 rfl
theorem dX0_addFirst_74 : decode cX0_addFirst 74 = .ok (.getfield 46, 3) := dOf oX0_addFirst_0 38 rfl
theorem dX0_addFirst_77 : decode cX0_addFirst 77 = .ok (.iload_n 2, 1) := dOf oX0_addFirst_0 39 rfl
theorem dX0_addFirst_78 : decode cX0_addFirst 78 = .ok (.iastore, 1) := dOf oX0_addFirst_0 40 rfl
theorem dX0_addFirst_79 : decode cX0_addFirst 79 = .ok (.aload_n 0, 1) := dOf oX0_addFirst_0 41 rfl
theorem dX0_addFirst_80 : decode cX0_addFirst 80 = .ok (.dup, 1) := dOf oX0_addFirst_0 42 rfl
theorem dX0_addFirst_81 : decode cX0_addFirst 81 = .ok (.getfield 46, 3) := dOf oX0_addFirst_0 43 rfl
theorem dX0_addFirst_84 : decode cX0_addFirst 84 = .ok (.iconst 1, 1) := dOf oX0_addFirst_0 44 rfl
theorem dX0_addFirst_85 : decode cX0_addFirst 85 = .ok (.iadd, 1) := dOf oX0_addFirst_0 45 rfl
theorem dX0_addFirst_86 : decode cX0_addFirst 86 = .ok (.putfield 46, 3) := dOf oX0_addFirst_0 46 rfl
theorem dX0_addFirst_89 : decode cX0_addFirst 89 = .ok (.return_, 1) := dOf oX0_addFirst_0 47 rfl
def eX0_leastSize_0 : List (Nat × Instr × Nat) := [(0, .bipush 12, 2), (2, .istore_n 1, 1), (3, .iconst 0, 1), (4, .istore_n 2, 1), (5, .iload_n 2, 1), (6, .aload_n 0, 1), (7, .getfield 17, 3), (10, .if_icmp .ge 26, 3), (13, .iload_n 1, 1), (14, .aload_n 0, 1), (15, .getfield 11, 3), (18, .iload_n 2, 1), (19, .aaload, 1), (20, .getfield 79, 3), (23, .getfield 83, 3), (26, .invokestatic 122, 3), (29, .istore_n 1, 1), (30, .iinc 2 1, 3), (33, .goto (-28), 3), (36, .iload_n 1, 1), (37, .ireturn, 1)]
theorem oX0_leastSize_0 : okC cX0_leastSize eX0_leastSize_0 = true := by decide +kernel
theorem dX0_leastSize_0 : decode cX0_leastSize 0 = .ok (.bipush 12, 2) := dOf oX0_leastSize_0 0 rfl
theorem dX0_leastSize_2 : decode cX0_leastSize 2 = .ok (.istore_n 1, 1) := dOf oX0_leastSize_0 1 rfl
theorem dX0_leastSize_3 : decode cX0_leastSize 3 = .ok (.iconst 0, 1) := dOf oX0_leastSize_0 2 rfl
theorem dX0_leastSize_4 : decode cX0_leastSize 4 = .ok (.istore_n 2, 1) := dOf oX0_leastSize_0 3 rfl
theorem dX0_leastSize_5 : decode cX0_leastSize 5 = .ok (.iload_n 2, 1) := dOf oX0_leastSize_0 4 rfl
theorem dX0_leastSize_6 : decode cX0_leastSize 6 = .ok (.aload_n 0, 1) := dOf oX0_leastSize_0 5 rfl
theorem dX0_leastSize_7 : decode cX0_leastSize 7 = .ok (.getfield 17, 3) := dOf oX0_leastSize_0 6 rfl
theorem dX0_leastSize_10 : decode cX0_leastSize 10 = .ok (.if_icmp .ge 26, 3) := dOf oX0_leastSize_0 7 rfl
theorem dX0_leastSize_13 : decode cX0_leastSize 13 = .ok (.iload_n 1, 1) := dOf oX0_leastSize_0 8 rfl
theorem dX0_leastSize_14 : decode cX0_leastSize 14 = .ok (.aload_n 0, 1) := dOf oX0_leastSize_0 9 rfl
theorem dX0_leastSize_15 : decode cX0_leastSize 15 = .ok (.getfield 11, 3) := dOf oX0_leastSize_0 10 rfl
theorem dX0_leastSize_18 : decode cX0_leastSize 18 = .ok (.iload_n 2, 1) := dOf oX0_leastSize_0 11 rfl
theorem dX0_leastSize_19 : decode cX0_leastSize 19 = .ok (.aaload, 1) := dOf oX0_leastSize_0 12 rfl
theorem dX0_leastSize_20 : decode cX0_leastSize 20 = .ok (.getfield 79, 3) := dOf oX0_leastSize_0 13 rfl
theorem dX0_leastSize_23 : decode cX0_leastSize 23 = .ok (.getfield 83, 3) := dOf oX0_leastSize_0 14 rfl
theorem dX0_leastSize_26 : decode cX0_leastSize 26 = .ok (.invokestatic 122, 3) := dOf oX0_leastSize_0 15 rfl
theorem dX0_leastSize_29 : decode cX0_leastSize 29 = .ok (.istore_n 1, 1) := dOf oX0_leastSize_0 16 rfl
theorem dX0_leastSize_30 : decode cX0_leastSize 30 = .ok (.iinc 2 1, 3) := dOf oX0_leastSize_0 17 rfl
theorem dX0_leastSize_33 : decode cX0_leastSize 33 = .ok (.goto (-28), 3) := dOf oX0_leastSize_0 18 rfl
theorem dX0_leastSize_36 : decode cX0_leastSize 36 = .ok (.iload_n 1, 1) := dOf oX0_leastSize_0 19 rfl
theorem dX0_leastSize_37 : decode cX0_leastSize 37 = .ok (.ireturn, 1) := dOf oX0_leastSize_0 20 rfl
def eX0_typedIn_0 : List (Nat × Instr × Nat) := [(0, .bipush (-4), 2), (2, .istore_n 3, 1), (3, .iconst 0, 1), (4, .istore 4, 2), (6, .iload 4, 2), (8, .aload_n 0, 1), (9, .getfield 17, 3), (12, .if_icmp .ge 118, 3), (15, .aload_n 0, 1), (16, .getfield 11, 3), (19, .iload 4, 2), (21, .aaload, 1), (22, .getfield 79, 3), (25, .astore 5, 2), (27, .iload_n 1, 1), (28, .iconst 4, 1), (29, .iload 4, 2), (31, .imul, 1), (32, .ishr, 1), (33, .bipush 15, 2), (35, .iand, 1), (36, .istore 6, 2), (38, .iload 6, 2), (40, .iload_n 2, 1), (41, .iadd, 1), (42, .aload 5, 2), (44, .getfield 83, 3), (47, .if_icmp .le 6, 3), (50, .bipush (-4), 2), (52, .ireturn, 1), (53, .iload_n 2, 1), (54, .istore 7, 2), (56, .iconst 0, 1), (57, .istore 8, 2), (59, .iload 8, 2), (61, .iconst 3, 1), (62, .if_icmp .ge 45, 3), (65, .iload 8, 2), (67, .iconst 3, 1), (68, .isub, 1), (69, .iload_n 2, 1), (70, .iadd, 1), (71, .istore 9, 2), (73, .iload 7, 2), (75, .bipush 8, 2), (77, .ishl, 1), (78, .iload 9, 2), (80, .ifCond .ge 7, 3), (83, .iconst 0, 1), (84, .goto 14, 3), (87, .aload 5, 2), (89, .getfield 127, 3), (92, .iload 6, 2), (94, .iload 9, 2), (96, .iadd, 1), (97, .baload, 1), (98, .ior, 1), (99, .istore 7, 2), (101, .iinc 8 1, 3), (104, .goto (-45), 3)]
theorem oX0_typedIn_0 : okC cX0_typedIn eX0_typedIn_0 = true := by decide +kernel
theorem dX0_typedIn_0 : decode cX0_typedIn 0 = .ok (.bipush (-4), 2) := dOf oX0_typedIn_0 0 rfl
theorem dX0_typedIn_2 : decode cX0_typedIn 2 = .ok (.istore_n 3, 1) := dOf oX0_typedIn_0 1 rfl
theorem dX0_typedIn_3 : decode cX0_typedIn 3 = .ok (.iconst 0, 1) := dOf oX0_typedIn_0 2 rfl
theorem dX0_typedIn_4 : decode cX0_typedIn 4 = .ok (.istore 4, 2) := dOf oX0_typedIn_0 3 rfl
theorem dX0_typedIn_6 : decode cX0_typedIn 6 = .ok (.iload 4, 2) := dOf oX0_typedIn_0 4 rfl
theorem dX0_typedIn_8 : decode cX0_typedIn 8 = .ok (.aload_n 0, 1) := dOf oX0_typedIn_0 5 rfl
theorem dX0_typedIn_9 : decode cX0_typedIn 9 = .ok (.getfield 17, 3) := dOf oX0_typedIn_0 6 rfl
theorem dX0_typedIn_12 : decode cX0_typedIn 12 = .ok (.if_icmp .ge 118, 3) := dOf oX0_typedIn_0 7 rfl
theorem dX0_typedIn_15 : decode cX0_typedIn 15 = .ok (.aload_n 0, 1) := dOf oX0_typedIn_0 8 rfl
theorem dX0_typedIn_16 : decode cX0_typedIn 16 = .ok (.getfield 11, 3) := dOf oX0_typedIn_0 9 rfl
theorem dX0_typedIn_19 : decode cX0_typedIn 19 = .ok (.iload 4, 2) := dOf oX0_typedIn_0 10 rfl
theorem dX0_typedIn_21 : decode cX0_typedIn 21 = .ok (.aaload, 1) := dOf oX0_typedIn_0 11 rfl
theorem dX0_typedIn_22 : decode cX0_typedIn 22 = .ok (.getfield 79, 3) := dOf oX0_typedIn_0 12 rfl
theorem dX0_typedIn_25 : decode cX0_typedIn 25 = .ok (.astore 5, 2) := dOf oX0_typedIn_0 13 rfl
theorem dX0_typedIn_27 : decode cX0_typedIn 27 = .ok (.iload_n 1, 1) := dOf oX0_typedIn_0 14 rfl
theorem dX0_typedIn_28 : decode cX0_typedIn 28 = .ok (.iconst 4, 1) := dOf oX0_typedIn_0 15 rfl
theorem dX0_typedIn_29 : decode cX0_typedIn 29 = .ok (.iload 4, 2) := dOf oX0_typedIn_0 16 rfl
theorem dX0_typedIn_31 : decode cX0_typedIn 31 = .ok (.imul, 1) := dOf oX0_typedIn_0 17 rfl
theorem dX0_typedIn_32 : decode cX0_typedIn 32 = .ok (.ishr, 1) := dOf oX0_typedIn_0 18 rfl
theorem dX0_typedIn_33 : decode cX0_typedIn 33 = .ok (.bipush 15, 2) := dOf oX0_typedIn_0 19 rfl
theorem dX0_typedIn_35 : decode cX0_typedIn 35 = .ok (.iand, 1) := dOf oX0_typedIn_0 20 rfl
theorem dX0_typedIn_36 : decode cX0_typedIn 36 = .ok (.istore 6, 2) := dOf oX0_typedIn_0 21 rfl
theorem dX0_typedIn_38 : decode cX0_typedIn 38 = .ok (.iload 6, 2) := dOf oX0_typedIn_0 22 rfl
theorem dX0_typedIn_40 : decode cX0_typedIn 40 = .ok (.iload_n 2, 1) := dOf oX0_typedIn_0 23 rfl
theorem dX0_typedIn_41 : decode cX0_typedIn 41 = .ok (.iadd, 1) := dOf oX0_typedIn_0 24 rfl
theorem dX0_typedIn_42 : decode cX0_typedIn 42 = .ok (.aload 5, 2) := dOf oX0_typedIn_0 25 rfl
theorem dX0_typedIn_44 : decode cX0_typedIn 44 = .ok (.getfield 83, 3) := dOf oX0_typedIn_0 26 rfl
theorem dX0_typedIn_47 : decode cX0_typedIn 47 = .ok (.if_icmp .le 6, 3) := dOf oX0_typedIn_0 27 rfl
theorem dX0_typedIn_50 : decode cX0_typedIn 50 = .ok (.bipush (-4), 2) := dOf oX0_typedIn_0 28 rfl
theorem dX0_typedIn_52 : decode cX0_typedIn 52 = .ok (.ireturn, 1) := dOf oX0_typedIn_0 29 rfl
theorem dX0_typedIn_53 : decode cX0_typedIn 53 = .ok (.iload_n 2, 1) := dOf oX0_typedIn_0 30 rfl
theorem dX0_typedIn_54 : decode cX0_typedIn 54 = .ok (.istore 7, 2) := dOf oX0_typedIn_0 31 rfl
theorem dX0_typedIn_56 : decode cX0_typedIn 56 = .ok (.iconst 0, 1) := dOf oX0_typedIn_0 32 rfl
theorem dX0_typedIn_57 : decode cX0_typedIn 57 = .ok (.istore 8, 2) := dOf oX0_typedIn_0 33 rfl
theorem dX0_typedIn_59 : decode cX0_typedIn 59 = .ok (.iload 8, 2) := dOf oX0_typedIn_0 34 rfl
theorem dX0_typedIn_61 : decode cX0_typedIn 61 = .ok (.iconst 3, 1) := dOf oX0_typedIn_0 35 rfl
theorem dX0_typedIn_62 : decode cX0_typedIn 62 = .ok (.if_icmp .ge 45, 3) := dOf oX0_typedIn_0 36 rfl
theorem dX0_typedIn_65 : decode cX0_typedIn 65 = .ok (.iload 8, 2) := dOf oX0_typedIn_0 37 rfl
theorem dX0_typedIn_67 : decode cX0_typedIn 67 = .ok (.iconst 3, 1) := dOf oX0_typedIn_0 38 rfl
theorem dX0_typedIn_68 : decode cX0_typedIn 68 = .ok (.isub, 1) := dOf oX0_typedIn_0 39 rfl
theorem dX0_typedIn_69 : decode cX0_typedIn 69 = .ok (.iload_n 2, 1) := dOf oX0_typedIn_0 40 rfl
theorem dX0_typedIn_70 : decode cX0_typedIn 70 = .ok (.iadd, 1) := dOf oX0_typedIn_0 41 rfl
theorem dX0_typedIn_71 : decode cX0_typedIn 71 = .ok (.istore 9, 2) := dOf oX0_typedIn_0 42 rfl
theorem dX0_typedIn_73 : decode cX0_typedIn 73 = .ok (.iload 7, 2) := dOf oX0_typedIn_0 43 rfl
theorem dX0_typedIn_75 : decode cX0_typedIn 75 = .ok (.bipush 8, 2) := dOf oX0_typedIn_0 44 rfl
theorem dX0_typedIn_77 : decode cX0_typedIn 77 = .ok (.ishl, 1) := dOf oX0_typedIn_0 45 rfl
theorem dX0_typedIn_78 : decode cX0_typedIn 78 = .ok (.iload 9, 2) := dOf oX0_typedIn_0 46 rfl
theorem dX0_typedIn_80 : decode cX0_typedIn 80 = .ok (.ifCond .ge 7, 3) := dOf oX0_typedIn_0 47 rfl
theorem dX0_typedIn_83 : decode cX0_typedIn 83 = .ok (.iconst 0, 1) := dOf oX0_typedIn_0 48 rfl
theorem dX0_typedIn_84 : decode cX0_typedIn 84 = .ok (.goto 14, 3) := dOf oX0_typedIn_0 49 rfl
theorem dX0_typedIn_87 : decode cX0_typedIn 87 = .ok (.aload 5, 2) := dOf oX0_typedIn_0 50 rfl
theorem dX0_typedIn_89 : decode cX0_typedIn 89 = .ok (.getfield 127, 3) := dOf oX0_typedIn_0 51 rfl
theorem dX0_typedIn_92 : decode cX0_typedIn 92 = .ok (.iload 6, 2) := dOf oX0_typedIn_0 52 rfl
theorem dX0_typedIn_94 : decode cX0_typedIn 94 = .ok (.iload 9, 2) := dOf oX0_typedIn_0 53 rfl
theorem dX0_typedIn_96 : decode cX0_typedIn 96 = .ok (.iadd, 1) := dOf oX0_typedIn_0 54 rfl
theorem dX0_typedIn_97 : decode cX0_typedIn 97 = .ok (.baload, 1) := dOf oX0_typedIn_0 55 rfl
theorem dX0_typedIn_98 : decode cX0_typedIn 98 = .ok (.ior, 1) := dOf oX0_typedIn_0 56 rfl
theorem dX0_typedIn_99 : decode cX0_typedIn 99 = .ok (.istore 7, 2) := dOf oX0_typedIn_0 57 rfl
theorem dX0_typedIn_101 : decode cX0_typedIn 101 = .ok (.iinc 8 1, 3) := dOf oX0_typedIn_0 58 rfl
theorem dX0_typedIn_104 : decode cX0_typedIn 104 = .ok (.goto (-45), 3) := dOf oX0_typedIn_0 59 rfl
def eX0_typedIn_1 : List (Nat × Instr × Nat) := [(107, .iload 4, 2), (109, .ifCond .le 12, 3), (112, .iload 7, 2), (114, .iload_n 3, 1), (115, .if_icmp .eq 6, 3), (118, .bipush (-4), 2), (120, .ireturn, 1), (121, .iload 7, 2), (123, .istore_n 3, 1), (124, .iinc 4 1, 3), (127, .goto (-121), 3), (130, .iload_n 3, 1), (131, .ireturn, 1)]
theorem oX0_typedIn_1 : okC cX0_typedIn eX0_typedIn_1 = true := by decide +kernel
theorem dX0_typedIn_107 : decode cX0_typedIn 107 = .ok (.iload 4, 2) := dOf oX0_typedIn_1 0 rfl
theorem dX0_typedIn_109 : decode cX0_typedIn 109 = .ok (.ifCond .le 12, 3) := dOf oX0_typedIn_1 1 rfl
theorem dX0_typedIn_112 : decode cX0_typedIn 112 = .ok (.iload 7, 2) := dOf oX0_typedIn_1 2 rfl
theorem dX0_typedIn_114 : decode cX0_typedIn 114 = .ok (.iload_n 3, 1) := dOf oX0_typedIn_1 3 rfl
theorem dX0_typedIn_115 : decode cX0_typedIn 115 = .ok (.if_icmp .eq 6, 3) := dOf oX0_typedIn_1 4 rfl
theorem dX0_typedIn_118 : decode cX0_typedIn 118 = .ok (.bipush (-4), 2) := dOf oX0_typedIn_1 5 rfl
theorem dX0_typedIn_120 : decode cX0_typedIn 120 = .ok (.ireturn, 1) := dOf oX0_typedIn_1 6 rfl
theorem dX0_typedIn_121 : decode cX0_typedIn 121 = .ok (.iload 7, 2) := dOf oX0_typedIn_1 7 rfl
theorem dX0_typedIn_123 : decode cX0_typedIn 123 = .ok (.istore_n 3, 1) := dOf oX0_typedIn_1 8 rfl
theorem dX0_typedIn_124 : decode cX0_typedIn 124 = .ok (.iinc 4 1, 3) := dOf oX0_typedIn_1 9 rfl
theorem dX0_typedIn_127 : decode cX0_typedIn 127 = .ok (.goto (-121), 3) := dOf oX0_typedIn_1 10 rfl
theorem dX0_typedIn_130 : decode cX0_typedIn 130 = .ok (.iload_n 3, 1) := dOf oX0_typedIn_1 11 rfl
theorem dX0_typedIn_131 : decode cX0_typedIn 131 = .ok (.ireturn, 1) := dOf oX0_typedIn_1 12 rfl
def eX0_joinPieces_0 : List (Nat × Instr × Nat) := [(0, .iconst 0, 1), (1, .istore_n 1, 1), (2, .iconst 0, 1), (3, .istore_n 2, 1), (4, .iload_n 2, 1), (5, .aload_n 0, 1), (6, .getfield 46, 3), (9, .if_icmp .ge 155, 3), (12, .aload_n 0, 1), (13, .getfield 39, 3), (16, .iload_n 2, 1), (17, .iaload, 1), (18, .istore_n 3, 1), (19, .aload_n 0, 1), (20, .getfield 50, 3), (23, .iload_n 3, 1), (24, .invokevirtual 130, 3), (27, .istore 4, 2), (29, .iload 4, 2), (31, .ifCond .le 7, 3), (34, .iconst 1, 1), (35, .goto 4, 3), (38, .iconst 0, 1), (39, .istore 5, 2), (41, .aload_n 0, 1), (42, .dup, 1), (43, .getfield 60, 3), (46, .iload 4, 2), (48, .iadd, 1), (49, .putfield 60, 3), (52, .iconst 1, 1), (53, .istore 6, 2), (55, .iload 6, 2), (57, .iconst 3, 1), (58, .if_icmp .gt 64, 3), (61, .aload_n 0, 1), (62, .getfield 50, 3), (65, .iload_n 3, 1), (66, .iload 6, 2), (68, .aload_n 0, 1), (69, .getfield 24, 3), (72, .imul, 1), (73, .iadd, 1), (74, .invokevirtual 130, 3), (77, .istore 7, 2), (79, .iload 7, 2), (81, .ifCond .le 35, 3), (84, .aload_n 0, 1), (85, .iload_n 3, 1), (86, .iload 6, 2), (88, .invokevirtual 115, 3), (91, .bipush (-4), 2), (93, .if_icmp .eq 23, 3), (96, .iload 5, 2), (98, .iconst 1, 1), (99, .iload 6, 2), (101, .ishl, 1), (102, .ior, 1), (103, .istore 5, 2), (105, .aload_n 0, 1)]
theorem oX0_joinPieces_0 : okC cX0_joinPieces eX0_joinPieces_0 = true := by decide +kernel
theorem dX0_joinPieces_0 : decode cX0_joinPieces 0 = .ok (.iconst 0, 1) := dOf oX0_joinPieces_0 0 rfl
theorem dX0_joinPieces_1 : decode cX0_joinPieces 1 = .ok (.istore_n 1, 1) := dOf oX0_joinPieces_0 1 rfl
theorem dX0_joinPieces_2 : decode cX0_joinPieces 2 = .ok (.iconst 0, 1) := dOf oX0_joinPieces_0 2 rfl
theorem dX0_joinPieces_3 : decode cX0_joinPieces 3 = .ok (.istore_n 2, 1) := dOf oX0_joinPieces_0 3 rfl
theorem dX0_joinPieces_4 : decode cX0_joinPieces 4 = .ok (.iload_n 2, 1) := dOf oX0_joinPieces_0 4 rfl
theorem dX0_joinPieces_5 : decode cX0_joinPieces 5 = .ok (.aload_n 0, 1) := dOf oX0_joinPieces_0 5 rfl
theorem dX0_joinPieces_6 : decode cX0_joinPieces 6 = .ok (.getfield 46, 3) := dOf oX0_joinPieces_0 6 rfl
theorem dX0_joinPieces_9 : decode cX0_joinPieces 9 = .ok (.if_icmp .ge 155, 3) := dOf oX0_joinPieces_0 7 rfl
theorem dX0_joinPieces_12 : decode cX0_joinPieces 12 = .ok (.aload_n 0, 1) := dOf oX0_joinPieces_0 8 rfl
theorem dX0_joinPieces_13 : decode cX0_joinPieces 13 = .ok (.getfield 39, 3) := dOf oX0_joinPieces_0 9 rfl
theorem dX0_joinPieces_16 : decode cX0_joinPieces 16 = .ok (.iload_n 2, 1) := dOf oX0_joinPieces_0 10 rfl
theorem dX0_joinPieces_17 : decode cX0_joinPieces 17 = .ok (.iaload, 1) := dOf oX0_joinPieces_0 11 rfl
theorem dX0_joinPieces_18 : decode cX0_joinPieces 18 = .ok (.istore_n 3, 1) := dOf oX0_joinPieces_0 12 rfl
theorem dX0_joinPieces_19 : decode cX0_joinPieces 19 = .ok (.aload_n 0, 1) := dOf oX0_joinPieces_0 13 rfl
theorem dX0_joinPieces_20 : decode cX0_joinPieces 20 = .ok (.getfield 50, 3) := dOf oX0_joinPieces_0 14 rfl
theorem dX0_joinPieces_23 : decode cX0_joinPieces 23 = .ok (.iload_n 3, 1) := dOf oX0_joinPieces_0 15 rfl
theorem dX0_joinPieces_24 : decode cX0_joinPieces 24 = .ok (.invokevirtual 130, 3) := dOf oX0_joinPieces_0 16 rfl
theorem dX0_joinPieces_27 : decode cX0_joinPieces 27 = .ok (.istore 4, 2) := dOf oX0_joinPieces_0 17 rfl
theorem dX0_joinPieces_29 : decode cX0_joinPieces 29 = .ok (.iload 4, 2) := dOf oX0_joinPieces_0 18 rfl
theorem dX0_joinPieces_31 : decode cX0_joinPieces 31 = .ok (.ifCond .le 7, 3) := dOf oX0_joinPieces_0 19 rfl
theorem dX0_joinPieces_34 : decode cX0_joinPieces 34 = .ok (.iconst 1, 1) := dOf oX0_joinPieces_0 20 rfl
theorem dX0_joinPieces_35 : decode cX0_joinPieces 35 = .ok (.goto 4, 3) := dOf oX0_joinPieces_0 21 rfl
theorem dX0_joinPieces_38 : decode cX0_joinPieces 38 = .ok (.iconst 0, 1) := dOf oX0_joinPieces_0 22 rfl
theorem dX0_joinPieces_39 : decode cX0_joinPieces 39 = .ok (.istore 5, 2) := dOf oX0_joinPieces_0 23 rfl
theorem dX0_joinPieces_41 : decode cX0_joinPieces 41 = .ok (.aload_n 0, 1) := dOf oX0_joinPieces_0 24 rfl
theorem dX0_joinPieces_42 : decode cX0_joinPieces 42 = .ok (.dup, 1) := dOf oX0_joinPieces_0 25 rfl
theorem dX0_joinPieces_43 : decode cX0_joinPieces 43 = .ok (.getfield 60, 3) := dOf oX0_joinPieces_0 26 rfl
theorem dX0_joinPieces_46 : decode cX0_joinPieces 46 = .ok (.iload 4, 2) := dOf oX0_joinPieces_0 27 rfl
theorem dX0_joinPieces_48 : decode cX0_joinPieces 48 = .ok (.iadd, 1) := dOf oX0_joinPieces_0 28 rfl
theorem dX0_joinPieces_49 : decode cX0_joinPieces 49 = .ok (.putfield 60, 3) := dOf oX0_joinPieces_0 29 rfl
theorem dX0_joinPieces_52 : decode cX0_joinPieces 52 = .ok (.iconst 1, 1) := dOf oX0_joinPieces_0 30 rfl
theorem dX0_joinPieces_53 : decode cX0_joinPieces 53 = .ok (.istore 6, 2) := dOf oX0_joinPieces_0 31 rfl
theorem dX0_joinPieces_55 : decode cX0_joinPieces 55 = .ok (.iload 6, 2) := dOf oX0_joinPieces_0 32 rfl
theorem dX0_joinPieces_57 : decode cX0_joinPieces 57 = .ok (.iconst 3, 1) := dOf oX0_joinPieces_0 33 rfl
theorem dX0_joinPieces_58 : decode cX0_joinPieces 58 = .ok (.if_icmp .gt 64, 3) := dOf oX0_joinPieces_0 34 rfl
theorem dX0_joinPieces_61 : decode cX0_joinPieces 61 = .ok (.aload_n 0, 1) := dOf oX0_joinPieces_0 35 rfl
theorem dX0_joinPieces_62 : decode cX0_joinPieces 62 = .ok (.getfield 50, 3) := dOf oX0_joinPieces_0 36 rfl
theorem dX0_joinPieces_65 : decode cX0_joinPieces 65 = .ok (.iload_n 3, 1) := dOf oX0_joinPieces_0 37 rfl
theorem dX0_joinPieces_66 : decode cX0_joinPieces 66 = .ok (.iload 6, 2) := dOf oX0_joinPieces_0 38 rfl
theorem dX0_joinPieces_68 : decode cX0_joinPieces 68 = .ok (.aload_n 0, 1) := dOf oX0_joinPieces_0 39 rfl
theorem dX0_joinPieces_69 : decode cX0_joinPieces 69 = .ok (.getfield 24, 3) := dOf oX0_joinPieces_0 40 rfl
theorem dX0_joinPieces_72 : decode cX0_joinPieces 72 = .ok (.imul, 1) := dOf oX0_joinPieces_0 41 rfl
theorem dX0_joinPieces_73 : decode cX0_joinPieces 73 = .ok (.iadd, 1) := dOf oX0_joinPieces_0 42 rfl
theorem dX0_joinPieces_74 : decode cX0_joinPieces 74 = .ok (.invokevirtual 130, 3) := dOf oX0_joinPieces_0 43 rfl
theorem dX0_joinPieces_77 : decode cX0_joinPieces 77 = .ok (.istore 7, 2) := dOf oX0_joinPieces_0 44 rfl
theorem dX0_joinPieces_79 : decode cX0_joinPieces 79 = .ok (.iload 7, 2) := dOf oX0_joinPieces_0 45 rfl
theorem dX0_joinPieces_81 : decode cX0_joinPieces 81 = .ok (.ifCond .le 35, 3) := dOf oX0_joinPieces_0 46 rfl
theorem dX0_joinPieces_84 : decode cX0_joinPieces 84 = .ok (.aload_n 0, 1) := dOf oX0_joinPieces_0 47 rfl
theorem dX0_joinPieces_85 : decode cX0_joinPieces 85 = .ok (.iload_n 3, 1) := dOf oX0_joinPieces_0 48 rfl
theorem dX0_joinPieces_86 : decode cX0_joinPieces 86 = .ok (.iload 6, 2) := dOf oX0_joinPieces_0 49 rfl
theorem dX0_joinPieces_88 : decode cX0_joinPieces 88 = .ok (.invokevirtual 115, 3) := dOf oX0_joinPieces_0 50 rfl
theorem dX0_joinPieces_91 : decode cX0_joinPieces 91 = .ok (.bipush (-4), 2) := dOf oX0_joinPieces_0 51 rfl
theorem dX0_joinPieces_93 : decode cX0_joinPieces 93 = .ok (.if_icmp .eq 23, 3) := dOf oX0_joinPieces_0 52 rfl
theorem dX0_joinPieces_96 : decode cX0_joinPieces 96 = .ok (.iload 5, 2) := dOf oX0_joinPieces_0 53 rfl
theorem dX0_joinPieces_98 : decode cX0_joinPieces 98 = .ok (.iconst 1, 1) := dOf oX0_joinPieces_0 54 rfl
theorem dX0_joinPieces_99 : decode cX0_joinPieces 99 = .ok (.iload 6, 2) := dOf oX0_joinPieces_0 55 rfl
theorem dX0_joinPieces_101 : decode cX0_joinPieces 101 = .ok (.ishl, 1) := dOf oX0_joinPieces_0 56 rfl
theorem dX0_joinPieces_102 : decode cX0_joinPieces 102 = .ok (.ior, 1) := dOf oX0_joinPieces_0 57 rfl
theorem dX0_joinPieces_103 : decode cX0_joinPieces 103 = .ok (.istore 5, 2) := dOf oX0_joinPieces_0 58 rfl
theorem dX0_joinPieces_105 : decode cX0_joinPieces 105 = .ok (.aload_n 0, 1) := dOf oX0_joinPieces_0 59 rfl
def eX0_joinPieces_1 : List (Nat × Instr × Nat) := [(106, .dup, 1), (107, .getfield 63, 3), (110, .iload 7, 2), (112, .iadd, 1), (113, .putfield 63, 3), (116, .iinc 6 1, 3), (119, .goto (-64), 3), (122, .iload 5, 2), (124, .ifCond .eq 34, 3), (127, .aload_n 0, 1), (128, .getfield 36, 3), (131, .iload_n 1, 1), (132, .aload_n 0, 1), (133, .getfield 36, 3), (136, .iload_n 2, 1), (137, .iaload, 1), (138, .iastore, 1), (139, .aload_n 0, 1), (140, .getfield 39, 3), (143, .iload_n 1, 1), (144, .iload_n 3, 1), (145, .iastore, 1), (146, .aload_n 0, 1), (147, .getfield 42, 3), (150, .iload_n 1, 1), (151, .iload 5, 2), (153, .i2b, 1), (154, .bastore, 1), (155, .iinc 1 1, 3), (158, .iinc 2 1, 3), (161, .goto (-157), 3), (164, .aload_n 0, 1), (165, .iload_n 1, 1), (166, .putfield 46, 3), (169, .return_, 1)]
theorem oX0_joinPieces_1 : okC cX0_joinPieces eX0_joinPieces_1 = true := by decide +kernel
theorem dX0_joinPieces_106 : decode cX0_joinPieces 106 = .ok (.dup, 1) := dOf oX0_joinPieces_1 0 rfl
theorem dX0_joinPieces_107 : decode cX0_joinPieces 107 = .ok (.getfield 63, 3) := dOf oX0_joinPieces_1 1 rfl
theorem dX0_joinPieces_110 : decode cX0_joinPieces 110 = .ok (.iload 7, 2) := dOf oX0_joinPieces_1 2 rfl
theorem dX0_joinPieces_112 : decode cX0_joinPieces 112 = .ok (.iadd, 1) := dOf oX0_joinPieces_1 3 rfl
theorem dX0_joinPieces_113 : decode cX0_joinPieces 113 = .ok (.putfield 63, 3) := dOf oX0_joinPieces_1 4 rfl
theorem dX0_joinPieces_116 : decode cX0_joinPieces 116 = .ok (.iinc 6 1, 3) := dOf oX0_joinPieces_1 5 rfl
theorem dX0_joinPieces_119 : decode cX0_joinPieces 119 = .ok (.goto (-64), 3) := dOf oX0_joinPieces_1 6 rfl
theorem dX0_joinPieces_122 : decode cX0_joinPieces 122 = .ok (.iload 5, 2) := dOf oX0_joinPieces_1 7 rfl
theorem dX0_joinPieces_124 : decode cX0_joinPieces 124 = .ok (.ifCond .eq 34, 3) := dOf oX0_joinPieces_1 8 rfl
theorem dX0_joinPieces_127 : decode cX0_joinPieces 127 = .ok (.aload_n 0, 1) := dOf oX0_joinPieces_1 9 rfl
theorem dX0_joinPieces_128 : decode cX0_joinPieces 128 = .ok (.getfield 36, 3) := dOf oX0_joinPieces_1 10 rfl
theorem dX0_joinPieces_131 : decode cX0_joinPieces 131 = .ok (.iload_n 1, 1) := dOf oX0_joinPieces_1 11 rfl
theorem dX0_joinPieces_132 : decode cX0_joinPieces 132 = .ok (.aload_n 0, 1) := dOf oX0_joinPieces_1 12 rfl
theorem dX0_joinPieces_133 : decode cX0_joinPieces 133 = .ok (.getfield 36, 3) := dOf oX0_joinPieces_1 13 rfl
theorem dX0_joinPieces_136 : decode cX0_joinPieces 136 = .ok (.iload_n 2, 1) := dOf oX0_joinPieces_1 14 rfl
theorem dX0_joinPieces_137 : decode cX0_joinPieces 137 = .ok (.iaload, 1) := dOf oX0_joinPieces_1 15 rfl
theorem dX0_joinPieces_138 : decode cX0_joinPieces 138 = .ok (.iastore, 1) := dOf oX0_joinPieces_1 16 rfl
theorem dX0_joinPieces_139 : decode cX0_joinPieces 139 = .ok (.aload_n 0, 1) := dOf oX0_joinPieces_1 17 rfl
theorem dX0_joinPieces_140 : decode cX0_joinPieces 140 = .ok (.getfield 39, 3) := dOf oX0_joinPieces_1 18 rfl
theorem dX0_joinPieces_143 : decode cX0_joinPieces 143 = .ok (.iload_n 1, 1) := dOf oX0_joinPieces_1 19 rfl
theorem dX0_joinPieces_144 : decode cX0_joinPieces 144 = .ok (.iload_n 3, 1) := dOf oX0_joinPieces_1 20 rfl
theorem dX0_joinPieces_145 : decode cX0_joinPieces 145 = .ok (.iastore, 1) := dOf oX0_joinPieces_1 21 rfl
theorem dX0_joinPieces_146 : decode cX0_joinPieces 146 = .ok (.aload_n 0, 1) := dOf oX0_joinPieces_1 22 rfl
theorem dX0_joinPieces_147 : decode cX0_joinPieces 147 = .ok (.getfield 42, 3) := dOf oX0_joinPieces_1 23 rfl
theorem dX0_joinPieces_150 : decode cX0_joinPieces 150 = .ok (.iload_n 1, 1) := dOf oX0_joinPieces_1 24 rfl
theorem dX0_joinPieces_151 : decode cX0_joinPieces 151 = .ok (.iload 5, 2) := dOf oX0_joinPieces_1 25 rfl
theorem dX0_joinPieces_153 : decode cX0_joinPieces 153 = .ok (.i2b, 1) := dOf oX0_joinPieces_1 26 rfl
theorem dX0_joinPieces_154 : decode cX0_joinPieces 154 = .ok (.bastore, 1) := dOf oX0_joinPieces_1 27 rfl
theorem dX0_joinPieces_155 : decode cX0_joinPieces 155 = .ok (.iinc 1 1, 3) := dOf oX0_joinPieces_1 28 rfl
theorem dX0_joinPieces_158 : decode cX0_joinPieces 158 = .ok (.iinc 2 1, 3) := dOf oX0_joinPieces_1 29 rfl
theorem dX0_joinPieces_161 : decode cX0_joinPieces 161 = .ok (.goto (-157), 3) := dOf oX0_joinPieces_1 30 rfl
theorem dX0_joinPieces_164 : decode cX0_joinPieces 164 = .ok (.aload_n 0, 1) := dOf oX0_joinPieces_1 31 rfl
theorem dX0_joinPieces_165 : decode cX0_joinPieces 165 = .ok (.iload_n 1, 1) := dOf oX0_joinPieces_1 32 rfl
theorem dX0_joinPieces_166 : decode cX0_joinPieces 166 = .ok (.putfield 46, 3) := dOf oX0_joinPieces_1 33 rfl
theorem dX0_joinPieces_169 : decode cX0_joinPieces 169 = .ok (.return_, 1) := dOf oX0_joinPieces_1 34 rfl
def eX0_rank_0 : List (Nat × Instr × Nat) := [(0, .iconst 3, 1), (1, .istore_n 1, 1), (2, .iload_n 1, 1), (3, .bipush 15, 2), (5, .if_icmp .gt 79, 3), (8, .aload_n 0, 1), (9, .invokevirtual 134, 3), (12, .ifCond .ne 72, 3), (15, .aload_n 0, 1), (16, .iload_n 1, 1), (17, .invokevirtual 138, 3), (20, .iconst 0, 1), (21, .istore_n 2, 1), (22, .iload_n 2, 1), (23, .aload_n 0, 1), (24, .getfield 46, 3), (27, .if_icmp .ge 22, 3), (30, .aload_n 0, 1), (31, .invokevirtual 134, 3), (34, .ifCond .ne 15, 3), (37, .aload_n 0, 1), (38, .iload_n 2, 1), (39, .iload_n 1, 1), (40, .invokevirtual 141, 3), (43, .iinc 2 1, 3), (46, .goto (-24), 3), (49, .iconst 0, 1), (50, .istore_n 2, 1), (51, .iload_n 2, 1), (52, .aload_n 0, 1), (53, .getfield 46, 3), (56, .if_icmp .ge 22, 3), (59, .aload_n 0, 1), (60, .invokevirtual 134, 3), (63, .ifCond .ne 15, 3), (66, .aload_n 0, 1), (67, .iload_n 2, 1), (68, .iload_n 1, 1), (69, .invokevirtual 144, 3), (72, .iinc 2 1, 3), (75, .goto (-24), 3), (78, .iinc 1 1, 3), (81, .goto (-79), 3), (84, .return_, 1)]
theorem oX0_rank_0 : okC cX0_rank eX0_rank_0 = true := by decide +kernel
theorem dX0_rank_0 : decode cX0_rank 0 = .ok (.iconst 3, 1) := dOf oX0_rank_0 0 rfl
theorem dX0_rank_1 : decode cX0_rank 1 = .ok (.istore_n 1, 1) := dOf oX0_rank_0 1 rfl
theorem dX0_rank_2 : decode cX0_rank 2 = .ok (.iload_n 1, 1) := dOf oX0_rank_0 2 rfl
theorem dX0_rank_3 : decode cX0_rank 3 = .ok (.bipush 15, 2) := dOf oX0_rank_0 3 rfl
theorem dX0_rank_5 : decode cX0_rank 5 = .ok (.if_icmp .gt 79, 3) := dOf oX0_rank_0 4 rfl
theorem dX0_rank_8 : decode cX0_rank 8 = .ok (.aload_n 0, 1) := dOf oX0_rank_0 5 rfl
theorem dX0_rank_9 : decode cX0_rank 9 = .ok (.invokevirtual 134, 3) := dOf oX0_rank_0 6 rfl
theorem dX0_rank_12 : decode cX0_rank 12 = .ok (.ifCond .ne 72, 3) := dOf oX0_rank_0 7 rfl
theorem dX0_rank_15 : decode cX0_rank 15 = .ok (.aload_n 0, 1) := dOf oX0_rank_0 8 rfl
theorem dX0_rank_16 : decode cX0_rank 16 = .ok (.iload_n 1, 1) := dOf oX0_rank_0 9 rfl
theorem dX0_rank_17 : decode cX0_rank 17 = .ok (.invokevirtual 138, 3) := dOf oX0_rank_0 10 rfl
theorem dX0_rank_20 : decode cX0_rank 20 = .ok (.iconst 0, 1) := dOf oX0_rank_0 11 rfl
theorem dX0_rank_21 : decode cX0_rank 21 = .ok (.istore_n 2, 1) := dOf oX0_rank_0 12 rfl
theorem dX0_rank_22 : decode cX0_rank 22 = .ok (.iload_n 2, 1) := dOf oX0_rank_0 13 rfl
theorem dX0_rank_23 : decode cX0_rank 23 = .ok (.aload_n 0, 1) := dOf oX0_rank_0 14 rfl
theorem dX0_rank_24 : decode cX0_rank 24 = .ok (.getfield 46, 3) := dOf oX0_rank_0 15 rfl
theorem dX0_rank_27 : decode cX0_rank 27 = .ok (.if_icmp .ge 22, 3) := dOf oX0_rank_0 16 rfl
theorem dX0_rank_30 : decode cX0_rank 30 = .ok (.aload_n 0, 1) := dOf oX0_rank_0 17 rfl
theorem dX0_rank_31 : decode cX0_rank 31 = .ok (.invokevirtual 134, 3) := dOf oX0_rank_0 18 rfl
theorem dX0_rank_34 : decode cX0_rank 34 = .ok (.ifCond .ne 15, 3) := dOf oX0_rank_0 19 rfl
theorem dX0_rank_37 : decode cX0_rank 37 = .ok (.aload_n 0, 1) := dOf oX0_rank_0 20 rfl
theorem dX0_rank_38 : decode cX0_rank 38 = .ok (.iload_n 2, 1) := dOf oX0_rank_0 21 rfl
theorem dX0_rank_39 : decode cX0_rank 39 = .ok (.iload_n 1, 1) := dOf oX0_rank_0 22 rfl
theorem dX0_rank_40 : decode cX0_rank 40 = .ok (.invokevirtual 141, 3) := dOf oX0_rank_0 23 rfl
theorem dX0_rank_43 : decode cX0_rank 43 = .ok (.iinc 2 1, 3) := dOf oX0_rank_0 24 rfl
theorem dX0_rank_46 : decode cX0_rank 46 = .ok (.goto (-24), 3) := dOf oX0_rank_0 25 rfl
theorem dX0_rank_49 : decode cX0_rank 49 = .ok (.iconst 0, 1) := dOf oX0_rank_0 26 rfl
theorem dX0_rank_50 : decode cX0_rank 50 = .ok (.istore_n 2, 1) := dOf oX0_rank_0 27 rfl
theorem dX0_rank_51 : decode cX0_rank 51 = .ok (.iload_n 2, 1) := dOf oX0_rank_0 28 rfl
theorem dX0_rank_52 : decode cX0_rank 52 = .ok (.aload_n 0, 1) := dOf oX0_rank_0 29 rfl
theorem dX0_rank_53 : decode cX0_rank 53 = .ok (.getfield 46, 3) := dOf oX0_rank_0 30 rfl
theorem dX0_rank_56 : decode cX0_rank 56 = .ok (.if_icmp .ge 22, 3) := dOf oX0_rank_0 31 rfl
theorem dX0_rank_59 : decode cX0_rank 59 = .ok (.aload_n 0, 1) := dOf oX0_rank_0 32 rfl
theorem dX0_rank_60 : decode cX0_rank 60 = .ok (.invokevirtual 134, 3) := dOf oX0_rank_0 33 rfl
theorem dX0_rank_63 : decode cX0_rank 63 = .ok (.ifCond .ne 15, 3) := dOf oX0_rank_0 34 rfl
theorem dX0_rank_66 : decode cX0_rank 66 = .ok (.aload_n 0, 1) := dOf oX0_rank_0 35 rfl
theorem dX0_rank_67 : decode cX0_rank 67 = .ok (.iload_n 2, 1) := dOf oX0_rank_0 36 rfl
theorem dX0_rank_68 : decode cX0_rank 68 = .ok (.iload_n 1, 1) := dOf oX0_rank_0 37 rfl
theorem dX0_rank_69 : decode cX0_rank 69 = .ok (.invokevirtual 144, 3) := dOf oX0_rank_0 38 rfl
theorem dX0_rank_72 : decode cX0_rank 72 = .ok (.iinc 2 1, 3) := dOf oX0_rank_0 39 rfl
theorem dX0_rank_75 : decode cX0_rank 75 = .ok (.goto (-24), 3) := dOf oX0_rank_0 40 rfl
theorem dX0_rank_78 : decode cX0_rank 78 = .ok (.iinc 1 1, 3) := dOf oX0_rank_0 41 rfl
theorem dX0_rank_81 : decode cX0_rank 81 = .ok (.goto (-79), 3) := dOf oX0_rank_0 42 rfl
theorem dX0_rank_84 : decode cX0_rank 84 = .ok (.return_, 1) := dOf oX0_rank_0 43 rfl
def eX0_isRanked_0 : List (Nat × Instr × Nat) := [(0, .aload_n 0, 1), (1, .getfield 72, 3), (4, .bipush 64, 2), (6, .if_icmp .ge 15, 3), (9, .aload_n 0, 1), (10, .getfield 72, 3), (13, .aload_n 0, 1), (14, .iconst 0, 1), (15, .invokevirtual 147, 3), (18, .if_icmp .lt 7, 3), (21, .iconst 1, 1), (22, .goto 4, 3), (25, .iconst 0, 1), (26, .ireturn, 1)]
theorem oX0_isRanked_0 : okC cX0_isRanked eX0_isRanked_0 = true := by decide +kernel
theorem dX0_isRanked_0 : decode cX0_isRanked 0 = .ok (.aload_n 0, 1) := dOf oX0_isRanked_0 0 rfl
theorem dX0_isRanked_1 : decode cX0_isRanked 1 = .ok (.getfield 72, 3) := dOf oX0_isRanked_0 1 rfl
theorem dX0_isRanked_4 : decode cX0_isRanked 4 = .ok (.bipush 64, 2) := dOf oX0_isRanked_0 2 rfl
theorem dX0_isRanked_6 : decode cX0_isRanked 6 = .ok (.if_icmp .ge 15, 3) := dOf oX0_isRanked_0 3 rfl
theorem dX0_isRanked_9 : decode cX0_isRanked 9 = .ok (.aload_n 0, 1) := dOf oX0_isRanked_0 4 rfl
theorem dX0_isRanked_10 : decode cX0_isRanked 10 = .ok (.getfield 72, 3) := dOf oX0_isRanked_0 5 rfl
theorem dX0_isRanked_13 : decode cX0_isRanked 13 = .ok (.aload_n 0, 1) := dOf oX0_isRanked_0 6 rfl
theorem dX0_isRanked_14 : decode cX0_isRanked 14 = .ok (.iconst 0, 1) := dOf oX0_isRanked_0 7 rfl
theorem dX0_isRanked_15 : decode cX0_isRanked 15 = .ok (.invokevirtual 147, 3) := dOf oX0_isRanked_0 8 rfl
theorem dX0_isRanked_18 : decode cX0_isRanked 18 = .ok (.if_icmp .lt 7, 3) := dOf oX0_isRanked_0 9 rfl
theorem dX0_isRanked_21 : decode cX0_isRanked 21 = .ok (.iconst 1, 1) := dOf oX0_isRanked_0 10 rfl
theorem dX0_isRanked_22 : decode cX0_isRanked 22 = .ok (.goto 4, 3) := dOf oX0_isRanked_0 11 rfl
theorem dX0_isRanked_25 : decode cX0_isRanked 25 = .ok (.iconst 0, 1) := dOf oX0_isRanked_0 12 rfl
theorem dX0_isRanked_26 : decode cX0_isRanked 26 = .ok (.ireturn, 1) := dOf oX0_isRanked_0 13 rfl
def eX0_rankWholes_0 : List (Nat × Instr × Nat) := [(0, .iconst 0, 1), (1, .istore_n 2, 1), (2, .iload_n 2, 1), (3, .aload_n 0, 1), (4, .getfield 57, 3), (7, .if_icmp .ge 42, 3), (10, .aload_n 0, 1), (11, .invokevirtual 134, 3), (14, .ifCond .ne 35, 3), (17, .aload_n 0, 1), (18, .getfield 54, 3), (21, .iload_n 2, 1), (22, .iaload, 1), (23, .invokestatic 150, 3), (26, .iload_n 1, 1), (27, .if_icmp .ne 16, 3), (30, .aload_n 0, 1), (31, .invokevirtual 153, 3), (34, .aload_n 0, 1), (35, .getfield 54, 3), (38, .iload_n 2, 1), (39, .iaload, 1), (40, .invokevirtual 157, 3), (43, .iinc 2 1, 3), (46, .goto (-44), 3), (49, .return_, 1)]
theorem oX0_rankWholes_0 : okC cX0_rankWholes eX0_rankWholes_0 = true := by decide +kernel
theorem dX0_rankWholes_0 : decode cX0_rankWholes 0 = .ok (.iconst 0, 1) := dOf oX0_rankWholes_0 0 rfl
theorem dX0_rankWholes_1 : decode cX0_rankWholes 1 = .ok (.istore_n 2, 1) := dOf oX0_rankWholes_0 1 rfl
theorem dX0_rankWholes_2 : decode cX0_rankWholes 2 = .ok (.iload_n 2, 1) := dOf oX0_rankWholes_0 2 rfl
theorem dX0_rankWholes_3 : decode cX0_rankWholes 3 = .ok (.aload_n 0, 1) := dOf oX0_rankWholes_0 3 rfl
theorem dX0_rankWholes_4 : decode cX0_rankWholes 4 = .ok (.getfield 57, 3) := dOf oX0_rankWholes_0 4 rfl
theorem dX0_rankWholes_7 : decode cX0_rankWholes 7 = .ok (.if_icmp .ge 42, 3) := dOf oX0_rankWholes_0 5 rfl
theorem dX0_rankWholes_10 : decode cX0_rankWholes 10 = .ok (.aload_n 0, 1) := dOf oX0_rankWholes_0 6 rfl
theorem dX0_rankWholes_11 : decode cX0_rankWholes 11 = .ok (.invokevirtual 134, 3) := dOf oX0_rankWholes_0 7 rfl
theorem dX0_rankWholes_14 : decode cX0_rankWholes 14 = .ok (.ifCond .ne 35, 3) := dOf oX0_rankWholes_0 8 rfl
theorem dX0_rankWholes_17 : decode cX0_rankWholes 17 = .ok (.aload_n 0, 1) := dOf oX0_rankWholes_0 9 rfl
theorem dX0_rankWholes_18 : decode cX0_rankWholes 18 = .ok (.getfield 54, 3) := dOf oX0_rankWholes_0 10 rfl
theorem dX0_rankWholes_21 : decode cX0_rankWholes 21 = .ok (.iload_n 2, 1) := dOf oX0_rankWholes_0 11 rfl
theorem dX0_rankWholes_22 : decode cX0_rankWholes 22 = .ok (.iaload, 1) := dOf oX0_rankWholes_0 12 rfl
theorem dX0_rankWholes_23 : decode cX0_rankWholes 23 = .ok (.invokestatic 150, 3) := dOf oX0_rankWholes_0 13 rfl
theorem dX0_rankWholes_26 : decode cX0_rankWholes 26 = .ok (.iload_n 1, 1) := dOf oX0_rankWholes_0 14 rfl
theorem dX0_rankWholes_27 : decode cX0_rankWholes 27 = .ok (.if_icmp .ne 16, 3) := dOf oX0_rankWholes_0 15 rfl
theorem dX0_rankWholes_30 : decode cX0_rankWholes 30 = .ok (.aload_n 0, 1) := dOf oX0_rankWholes_0 16 rfl
theorem dX0_rankWholes_31 : decode cX0_rankWholes 31 = .ok (.invokevirtual 153, 3) := dOf oX0_rankWholes_0 17 rfl
theorem dX0_rankWholes_34 : decode cX0_rankWholes 34 = .ok (.aload_n 0, 1) := dOf oX0_rankWholes_0 18 rfl
theorem dX0_rankWholes_35 : decode cX0_rankWholes 35 = .ok (.getfield 54, 3) := dOf oX0_rankWholes_0 19 rfl
theorem dX0_rankWholes_38 : decode cX0_rankWholes 38 = .ok (.iload_n 2, 1) := dOf oX0_rankWholes_0 20 rfl
theorem dX0_rankWholes_39 : decode cX0_rankWholes 39 = .ok (.iaload, 1) := dOf oX0_rankWholes_0 21 rfl
theorem dX0_rankWholes_40 : decode cX0_rankWholes 40 = .ok (.invokevirtual 157, 3) := dOf oX0_rankWholes_0 22 rfl
theorem dX0_rankWholes_43 : decode cX0_rankWholes 43 = .ok (.iinc 2 1, 3) := dOf oX0_rankWholes_0 23 rfl
theorem dX0_rankWholes_46 : decode cX0_rankWholes 46 = .ok (.goto (-44), 3) := dOf oX0_rankWholes_0 24 rfl
theorem dX0_rankWholes_49 : decode cX0_rankWholes 49 = .ok (.return_, 1) := dOf oX0_rankWholes_0 25 rfl
def eX0_rankPairs_0 : List (Nat × Instr × Nat) := [(0, .aload_n 0, 1), (1, .getfield 42, 3), (4, .iload_n 1, 1), (5, .baload, 1), (6, .iconst 1, 1), (7, .iand, 1), (8, .ifCond .ne 4, 3), (11, .return_, 1), (12, .iload_n 2, 1), (13, .aload_n 0, 1), (14, .getfield 36, 3), (17, .iload_n 1, 1), (18, .iaload, 1), (19, .invokestatic 150, 3), (22, .isub, 1), (23, .istore_n 3, 1), (24, .aload_n 0, 1), (25, .getfield 50, 3), (28, .aload_n 0, 1), (29, .getfield 39, 3), (32, .iload_n 1, 1), (33, .iaload, 1), (34, .iload_n 3, 1), (35, .invokevirtual 159, 3), (38, .istore 4, 2), (40, .iconst 0, 1), (41, .istore 5, 2), (43, .iload 5, 2), (45, .bipush 64, 2), (47, .if_icmp .ge 63, 3), (50, .iload 4, 2), (52, .ifCond .lt 58, 3), (55, .aload_n 0, 1), (56, .invokevirtual 134, 3), (59, .ifCond .ne 51, 3), (62, .aload_n 0, 1), (63, .invokevirtual 153, 3), (66, .astore 6, 2), (68, .aload 6, 2), (70, .aload_n 0, 1), (71, .getfield 36, 3), (74, .iload_n 1, 1), (75, .iaload, 1), (76, .invokevirtual 157, 3), (79, .aload 6, 2), (81, .aload_n 0, 1), (82, .getfield 50, 3), (85, .iload 4, 2), (87, .invokevirtual 162, 3), (90, .invokevirtual 157, 3), (93, .aload_n 0, 1), (94, .getfield 50, 3), (97, .iload 4, 2), (99, .invokevirtual 165, 3), (102, .istore 4, 2), (104, .iinc 5 1, 3), (107, .goto (-64), 3), (110, .return_, 1)]
theorem oX0_rankPairs_0 : okC cX0_rankPairs eX0_rankPairs_0 = true := by decide +kernel
theorem dX0_rankPairs_0 : decode cX0_rankPairs 0 = .ok (.aload_n 0, 1) := dOf oX0_rankPairs_0 0 rfl
theorem dX0_rankPairs_1 : decode cX0_rankPairs 1 = .ok (.getfield 42, 3) := dOf oX0_rankPairs_0 1 rfl
theorem dX0_rankPairs_4 : decode cX0_rankPairs 4 = .ok (.iload_n 1, 1) := dOf oX0_rankPairs_0 2 rfl
theorem dX0_rankPairs_5 : decode cX0_rankPairs 5 = .ok (.baload, 1) := dOf oX0_rankPairs_0 3 rfl
theorem dX0_rankPairs_6 : decode cX0_rankPairs 6 = .ok (.iconst 1, 1) := dOf oX0_rankPairs_0 4 rfl
theorem dX0_rankPairs_7 : decode cX0_rankPairs 7 = .ok (.iand, 1) := dOf oX0_rankPairs_0 5 rfl
theorem dX0_rankPairs_8 : decode cX0_rankPairs 8 = .ok (.ifCond .ne 4, 3) := dOf oX0_rankPairs_0 6 rfl
theorem dX0_rankPairs_11 : decode cX0_rankPairs 11 = .ok (.return_, 1) := dOf oX0_rankPairs_0 7 rfl
theorem dX0_rankPairs_12 : decode cX0_rankPairs 12 = .ok (.iload_n 2, 1) := dOf oX0_rankPairs_0 8 rfl
theorem dX0_rankPairs_13 : decode cX0_rankPairs 13 = .ok (.aload_n 0, 1) := dOf oX0_rankPairs_0 9 rfl
theorem dX0_rankPairs_14 : decode cX0_rankPairs 14 = .ok (.getfield 36, 3) := dOf oX0_rankPairs_0 10 rfl
theorem dX0_rankPairs_17 : decode cX0_rankPairs 17 = .ok (.iload_n 1, 1) := dOf oX0_rankPairs_0 11 rfl
theorem dX0_rankPairs_18 : decode cX0_rankPairs 18 = .ok (.iaload, 1) := dOf oX0_rankPairs_0 12 rfl
theorem dX0_rankPairs_19 : decode cX0_rankPairs 19 = .ok (.invokestatic 150, 3) := dOf oX0_rankPairs_0 13 rfl
theorem dX0_rankPairs_22 : decode cX0_rankPairs 22 = .ok (.isub, 1) := dOf oX0_rankPairs_0 14 rfl
theorem dX0_rankPairs_23 : decode cX0_rankPairs 23 = .ok (.istore_n 3, 1) := dOf oX0_rankPairs_0 15 rfl
theorem dX0_rankPairs_24 : decode cX0_rankPairs 24 = .ok (.aload_n 0, 1) := dOf oX0_rankPairs_0 16 rfl
theorem dX0_rankPairs_25 : decode cX0_rankPairs 25 = .ok (.getfield 50, 3) := dOf oX0_rankPairs_0 17 rfl
theorem dX0_rankPairs_28 : decode cX0_rankPairs 28 = .ok (.aload_n 0, 1) := dOf oX0_rankPairs_0 18 rfl
theorem dX0_rankPairs_29 : decode cX0_rankPairs 29 = .ok (.getfield 39, 3) := dOf oX0_rankPairs_0 19 rfl
theorem dX0_rankPairs_32 : decode cX0_rankPairs 32 = .ok (.iload_n 1, 1) := dOf oX0_rankPairs_0 20 rfl
theorem dX0_rankPairs_33 : decode cX0_rankPairs 33 = .ok (.iaload, 1) := dOf oX0_rankPairs_0 21 rfl
theorem dX0_rankPairs_34 : decode cX0_rankPairs 34 = .ok (.iload_n 3, 1) := dOf oX0_rankPairs_0 22 rfl
theorem dX0_rankPairs_35 : decode cX0_rankPairs 35 = .ok (.invokevirtual 159, 3) := dOf oX0_rankPairs_0 23 rfl
theorem dX0_rankPairs_38 : decode cX0_rankPairs 38 = .ok (.istore 4, 2) := dOf oX0_rankPairs_0 24 rfl
theorem dX0_rankPairs_40 : decode cX0_rankPairs 40 = .ok (.iconst 0, 1) := dOf oX0_rankPairs_0 25 rfl
theorem dX0_rankPairs_41 : decode cX0_rankPairs 41 = .ok (.istore 5, 2) := dOf oX0_rankPairs_0 26 rfl
theorem dX0_rankPairs_43 : decode cX0_rankPairs 43 = .ok (.iload 5, 2) := dOf oX0_rankPairs_0 27 rfl
theorem dX0_rankPairs_45 : decode cX0_rankPairs 45 = .ok (.bipush 64, 2) := dOf oX0_rankPairs_0 28 rfl
theorem dX0_rankPairs_47 : decode cX0_rankPairs 47 = .ok (.if_icmp .ge 63, 3) := dOf oX0_rankPairs_0 29 rfl
theorem dX0_rankPairs_50 : decode cX0_rankPairs 50 = .ok (.iload 4, 2) := dOf oX0_rankPairs_0 30 rfl
theorem dX0_rankPairs_52 : decode cX0_rankPairs 52 = .ok (.ifCond .lt 58, 3) := dOf oX0_rankPairs_0 31 rfl
theorem dX0_rankPairs_55 : decode cX0_rankPairs 55 = .ok (.aload_n 0, 1) := dOf oX0_rankPairs_0 32 rfl
theorem dX0_rankPairs_56 : decode cX0_rankPairs 56 = .ok (.invokevirtual 134, 3) := dOf oX0_rankPairs_0 33 rfl
theorem dX0_rankPairs_59 : decode cX0_rankPairs 59 = .ok (.ifCond .ne 51, 3) := dOf oX0_rankPairs_0 34 rfl
theorem dX0_rankPairs_62 : decode cX0_rankPairs 62 = .ok (.aload_n 0, 1) := dOf oX0_rankPairs_0 35 rfl
theorem dX0_rankPairs_63 : decode cX0_rankPairs 63 = .ok (.invokevirtual 153, 3) := dOf oX0_rankPairs_0 36 rfl
theorem dX0_rankPairs_66 : decode cX0_rankPairs 66 = .ok (.astore 6, 2) := dOf oX0_rankPairs_0 37 rfl
theorem dX0_rankPairs_68 : decode cX0_rankPairs 68 = .ok (.aload 6, 2) := dOf oX0_rankPairs_0 38 rfl
theorem dX0_rankPairs_70 : decode cX0_rankPairs 70 = .ok (.aload_n 0, 1) := dOf oX0_rankPairs_0 39 rfl
theorem dX0_rankPairs_71 : decode cX0_rankPairs 71 = .ok (.getfield 36, 3) := dOf oX0_rankPairs_0 40 rfl
theorem dX0_rankPairs_74 : decode cX0_rankPairs 74 = .ok (.iload_n 1, 1) := dOf oX0_rankPairs_0 41 rfl
theorem dX0_rankPairs_75 : decode cX0_rankPairs 75 = .ok (.iaload, 1) := dOf oX0_rankPairs_0 42 rfl
theorem dX0_rankPairs_76 : decode cX0_rankPairs 76 = .ok (.invokevirtual 157, 3) := dOf oX0_rankPairs_0 43 rfl
theorem dX0_rankPairs_79 : decode cX0_rankPairs 79 = .ok (.aload 6, 2) := dOf oX0_rankPairs_0 44 rfl
theorem dX0_rankPairs_81 : decode cX0_rankPairs 81 = .ok (.aload_n 0, 1) := dOf oX0_rankPairs_0 45 rfl
theorem dX0_rankPairs_82 : decode cX0_rankPairs 82 = .ok (.getfield 50, 3) := dOf oX0_rankPairs_0 46 rfl
theorem dX0_rankPairs_85 : decode cX0_rankPairs 85 = .ok (.iload 4, 2) := dOf oX0_rankPairs_0 47 rfl
theorem dX0_rankPairs_87 : decode cX0_rankPairs 87 = .ok (.invokevirtual 162, 3) := dOf oX0_rankPairs_0 48 rfl
theorem dX0_rankPairs_90 : decode cX0_rankPairs 90 = .ok (.invokevirtual 157, 3) := dOf oX0_rankPairs_0 49 rfl
theorem dX0_rankPairs_93 : decode cX0_rankPairs 93 = .ok (.aload_n 0, 1) := dOf oX0_rankPairs_0 50 rfl
theorem dX0_rankPairs_94 : decode cX0_rankPairs 94 = .ok (.getfield 50, 3) := dOf oX0_rankPairs_0 51 rfl
theorem dX0_rankPairs_97 : decode cX0_rankPairs 97 = .ok (.iload 4, 2) := dOf oX0_rankPairs_0 52 rfl
theorem dX0_rankPairs_99 : decode cX0_rankPairs 99 = .ok (.invokevirtual 165, 3) := dOf oX0_rankPairs_0 53 rfl
theorem dX0_rankPairs_102 : decode cX0_rankPairs 102 = .ok (.istore 4, 2) := dOf oX0_rankPairs_0 54 rfl
theorem dX0_rankPairs_104 : decode cX0_rankPairs 104 = .ok (.iinc 5 1, 3) := dOf oX0_rankPairs_0 55 rfl
theorem dX0_rankPairs_107 : decode cX0_rankPairs 107 = .ok (.goto (-64), 3) := dOf oX0_rankPairs_0 56 rfl
theorem dX0_rankPairs_110 : decode cX0_rankPairs 110 = .ok (.return_, 1) := dOf oX0_rankPairs_0 57 rfl
def eX0_rankTriples_0 : List (Nat × Instr × Nat) := [(0, .iconst 1, 1), (1, .istore_n 3, 1), (2, .iload_n 3, 1), (3, .iconst 3, 1), (4, .if_icmp .gt 152, 3), (7, .aload_n 0, 1), (8, .getfield 42, 3), (11, .iload_n 1, 1), (12, .baload, 1), (13, .iload_n 3, 1), (14, .ishr, 1), (15, .iconst 1, 1), (16, .iand, 1), (17, .ifCond .ne 6, 3), (20, .goto 130, 3), (23, .iload_n 2, 1), (24, .aload_n 0, 1), (25, .getfield 36, 3), (28, .iload_n 1, 1), (29, .iaload, 1), (30, .invokestatic 150, 3), (33, .isub, 1), (34, .iconst 2, 1), (35, .iload_n 3, 1), (36, .iadd, 1), (37, .isub, 1), (38, .istore 4, 2), (40, .aload_n 0, 1), (41, .getfield 50, 3), (44, .aload_n 0, 1), (45, .getfield 39, 3), (48, .iload_n 1, 1), (49, .iaload, 1), (50, .iload_n 3, 1), (51, .aload_n 0, 1), (52, .getfield 24, 3), (55, .imul, 1), (56, .iadd, 1), (57, .iload 4, 2), (59, .invokevirtual 159, 3), (62, .istore 5, 2), (64, .iconst 0, 1), (65, .istore 6, 2), (67, .iload 6, 2), (69, .bipush 64, 2), (71, .if_icmp .ge 79, 3), (74, .iload 5, 2), (76, .ifCond .lt 74, 3), (79, .aload_n 0, 1), (80, .invokevirtual 134, 3), (83, .ifCond .ne 67, 3), (86, .aload_n 0, 1), (87, .invokevirtual 153, 3), (90, .astore 7, 2), (92, .aload 7, 2), (94, .aload_n 0, 1), (95, .getfield 36, 3), (98, .iload_n 1, 1), (99, .iaload, 1), (100, .invokevirtual 157, 3)]
theorem oX0_rankTriples_0 : okC cX0_rankTriples eX0_rankTriples_0 = true := by decide +kernel
theorem dX0_rankTriples_0 : decode cX0_rankTriples 0 = .ok (.iconst 1, 1) := dOf oX0_rankTriples_0 0 rfl
theorem dX0_rankTriples_1 : decode cX0_rankTriples 1 = .ok (.istore_n 3, 1) := dOf oX0_rankTriples_0 1 rfl
theorem dX0_rankTriples_2 : decode cX0_rankTriples 2 = .ok (.iload_n 3, 1) := dOf oX0_rankTriples_0 2 rfl
theorem dX0_rankTriples_3 : decode cX0_rankTriples 3 = .ok (.iconst 3, 1) := dOf oX0_rankTriples_0 3 rfl
theorem dX0_rankTriples_4 : decode cX0_rankTriples 4 = .ok (.if_icmp .gt 152, 3) := dOf oX0_rankTriples_0 4 rfl
theorem dX0_rankTriples_7 : decode cX0_rankTriples 7 = .ok (.aload_n 0, 1) := dOf oX0_rankTriples_0 5 rfl
theorem dX0_rankTriples_8 : decode cX0_rankTriples 8 = .ok (.getfield 42, 3) := dOf oX0_rankTriples_0 6 rfl
theorem dX0_rankTriples_11 : decode cX0_rankTriples 11 = .ok (.iload_n 1, 1) := dOf oX0_rankTriples_0 7 rfl
theorem dX0_rankTriples_12 : decode cX0_rankTriples 12 = .ok (.baload, 1) := dOf oX0_rankTriples_0 8 rfl
theorem dX0_rankTriples_13 : decode cX0_rankTriples 13 = .ok (.iload_n 3, 1) := dOf oX0_rankTriples_0 9 rfl
theorem dX0_rankTriples_14 : decode cX0_rankTriples 14 = .ok (.ishr, 1) := dOf oX0_rankTriples_0 10 rfl
theorem dX0_rankTriples_15 : decode cX0_rankTriples 15 = .ok (.iconst 1, 1) := dOf oX0_rankTriples_0 11 rfl
theorem dX0_rankTriples_16 : decode cX0_rankTriples 16 = .ok (.iand, 1) := dOf oX0_rankTriples_0 12 rfl
theorem dX0_rankTriples_17 : decode cX0_rankTriples 17 = .ok (.ifCond .ne 6, 3) := dOf oX0_rankTriples_0 13 rfl
theorem dX0_rankTriples_20 : decode cX0_rankTriples 20 = .ok (.goto 130, 3) := dOf oX0_rankTriples_0 14 rfl
theorem dX0_rankTriples_23 : decode cX0_rankTriples 23 = .ok (.iload_n 2, 1) := dOf oX0_rankTriples_0 15 rfl
theorem dX0_rankTriples_24 : decode cX0_rankTriples 24 = .ok (.aload_n 0, 1) := dOf oX0_rankTriples_0 16 rfl
theorem dX0_rankTriples_25 : decode cX0_rankTriples 25 = .ok (.getfield 36, 3) := dOf oX0_rankTriples_0 17 rfl
theorem dX0_rankTriples_28 : decode cX0_rankTriples 28 = .ok (.iload_n 1, 1) := dOf oX0_rankTriples_0 18 rfl
theorem dX0_rankTriples_29 : decode cX0_rankTriples 29 = .ok (.iaload, 1) := dOf oX0_rankTriples_0 19 rfl
theorem dX0_rankTriples_30 : decode cX0_rankTriples 30 = .ok (.invokestatic 150, 3) := dOf oX0_rankTriples_0 20 rfl
theorem dX0_rankTriples_33 : decode cX0_rankTriples 33 = .ok (.isub, 1) := dOf oX0_rankTriples_0 21 rfl
theorem dX0_rankTriples_34 : decode cX0_rankTriples 34 = .ok (.iconst 2, 1) := dOf oX0_rankTriples_0 22 rfl
theorem dX0_rankTriples_35 : decode cX0_rankTriples 35 = .ok (.iload_n 3, 1) := dOf oX0_rankTriples_0 23 rfl
theorem dX0_rankTriples_36 : decode cX0_rankTriples 36 = .ok (.iadd, 1) := dOf oX0_rankTriples_0 24 rfl
theorem dX0_rankTriples_37 : decode cX0_rankTriples 37 = .ok (.isub, 1) := dOf oX0_rankTriples_0 25 rfl
theorem dX0_rankTriples_38 : decode cX0_rankTriples 38 = .ok (.istore 4, 2) := dOf oX0_rankTriples_0 26 rfl
theorem dX0_rankTriples_40 : decode cX0_rankTriples 40 = .ok (.aload_n 0, 1) := dOf oX0_rankTriples_0 27 rfl
theorem dX0_rankTriples_41 : decode cX0_rankTriples 41 = .ok (.getfield 50, 3) := dOf oX0_rankTriples_0 28 rfl
theorem dX0_rankTriples_44 : decode cX0_rankTriples 44 = .ok (.aload_n 0, 1) := dOf oX0_rankTriples_0 29 rfl
theorem dX0_rankTriples_45 : decode cX0_rankTriples 45 = .ok (.getfield 39, 3) := dOf oX0_rankTriples_0 30 rfl
theorem dX0_rankTriples_48 : decode cX0_rankTriples 48 = .ok (.iload_n 1, 1) := dOf oX0_rankTriples_0 31 rfl
theorem dX0_rankTriples_49 : decode cX0_rankTriples 49 = .ok (.iaload, 1) := dOf oX0_rankTriples_0 32 rfl
theorem dX0_rankTriples_50 : decode cX0_rankTriples 50 = .ok (.iload_n 3, 1) := dOf oX0_rankTriples_0 33 rfl
theorem dX0_rankTriples_51 : decode cX0_rankTriples 51 = .ok (.aload_n 0, 1) := dOf oX0_rankTriples_0 34 rfl
theorem dX0_rankTriples_52 : decode cX0_rankTriples 52 = .ok (.getfield 24, 3) := dOf oX0_rankTriples_0 35 rfl
theorem dX0_rankTriples_55 : decode cX0_rankTriples 55 = .ok (.imul, 1) := dOf oX0_rankTriples_0 36 rfl
theorem dX0_rankTriples_56 : decode cX0_rankTriples 56 = .ok (.iadd, 1) := dOf oX0_rankTriples_0 37 rfl
theorem dX0_rankTriples_57 : decode cX0_rankTriples 57 = .ok (.iload 4, 2) := dOf oX0_rankTriples_0 38 rfl
theorem dX0_rankTriples_59 : decode cX0_rankTriples 59 = .ok (.invokevirtual 159, 3) := dOf oX0_rankTriples_0 39 rfl
theorem dX0_rankTriples_62 : decode cX0_rankTriples 62 = .ok (.istore 5, 2) := dOf oX0_rankTriples_0 40 rfl
theorem dX0_rankTriples_64 : decode cX0_rankTriples 64 = .ok (.iconst 0, 1) := dOf oX0_rankTriples_0 41 rfl
theorem dX0_rankTriples_65 : decode cX0_rankTriples 65 = .ok (.istore 6, 2) := dOf oX0_rankTriples_0 42 rfl
theorem dX0_rankTriples_67 : decode cX0_rankTriples 67 = .ok (.iload 6, 2) := dOf oX0_rankTriples_0 43 rfl
theorem dX0_rankTriples_69 : decode cX0_rankTriples 69 = .ok (.bipush 64, 2) := dOf oX0_rankTriples_0 44 rfl
theorem dX0_rankTriples_71 : decode cX0_rankTriples 71 = .ok (.if_icmp .ge 79, 3) := dOf oX0_rankTriples_0 45 rfl
theorem dX0_rankTriples_74 : decode cX0_rankTriples 74 = .ok (.iload 5, 2) := dOf oX0_rankTriples_0 46 rfl
theorem dX0_rankTriples_76 : decode cX0_rankTriples 76 = .ok (.ifCond .lt 74, 3) := dOf oX0_rankTriples_0 47 rfl
theorem dX0_rankTriples_79 : decode cX0_rankTriples 79 = .ok (.aload_n 0, 1) := dOf oX0_rankTriples_0 48 rfl
theorem dX0_rankTriples_80 : decode cX0_rankTriples 80 = .ok (.invokevirtual 134, 3) := dOf oX0_rankTriples_0 49 rfl
theorem dX0_rankTriples_83 : decode cX0_rankTriples 83 = .ok (.ifCond .ne 67, 3) := dOf oX0_rankTriples_0 50 rfl
theorem dX0_rankTriples_86 : decode cX0_rankTriples 86 = .ok (.aload_n 0, 1) := dOf oX0_rankTriples_0 51 rfl
theorem dX0_rankTriples_87 : decode cX0_rankTriples 87 = .ok (.invokevirtual 153, 3) := dOf oX0_rankTriples_0 52 rfl
theorem dX0_rankTriples_90 : decode cX0_rankTriples 90 = .ok (.astore 7, 2) := dOf oX0_rankTriples_0 53 rfl
theorem dX0_rankTriples_92 : decode cX0_rankTriples 92 = .ok (.aload 7, 2) := dOf oX0_rankTriples_0 54 rfl
theorem dX0_rankTriples_94 : decode cX0_rankTriples 94 = .ok (.aload_n 0, 1) := dOf oX0_rankTriples_0 55 rfl
theorem dX0_rankTriples_95 : decode cX0_rankTriples 95 = .ok (.getfield 36, 3) := dOf oX0_rankTriples_0 56 rfl
theorem dX0_rankTriples_98 : decode cX0_rankTriples 98 = .ok (.iload_n 1, 1) := dOf oX0_rankTriples_0 57 rfl
theorem dX0_rankTriples_99 : decode cX0_rankTriples 99 = .ok (.iaload, 1) := dOf oX0_rankTriples_0 58 rfl
theorem dX0_rankTriples_100 : decode cX0_rankTriples 100 = .ok (.invokevirtual 157, 3) := dOf oX0_rankTriples_0 59 rfl
def eX0_rankTriples_1 : List (Nat × Instr × Nat) := [(103, .aload 7, 2), (105, .aload_n 0, 1), (106, .aload_n 0, 1), (107, .getfield 39, 3), (110, .iload_n 1, 1), (111, .iaload, 1), (112, .iload_n 3, 1), (113, .invokevirtual 115, 3), (116, .invokevirtual 157, 3), (119, .aload 7, 2), (121, .aload_n 0, 1), (122, .getfield 50, 3), (125, .iload 5, 2), (127, .invokevirtual 162, 3), (130, .invokevirtual 157, 3), (133, .aload_n 0, 1), (134, .getfield 50, 3), (137, .iload 5, 2), (139, .invokevirtual 165, 3), (142, .istore 5, 2), (144, .iinc 6 1, 3), (147, .goto (-80), 3), (150, .iinc 3 1, 3), (153, .goto (-151), 3), (156, .return_, 1)]
theorem oX0_rankTriples_1 : okC cX0_rankTriples eX0_rankTriples_1 = true := by decide +kernel
theorem dX0_rankTriples_103 : decode cX0_rankTriples 103 = .ok (.aload 7, 2) := dOf oX0_rankTriples_1 0 rfl
theorem dX0_rankTriples_105 : decode cX0_rankTriples 105 = .ok (.aload_n 0, 1) := dOf oX0_rankTriples_1 1 rfl
theorem dX0_rankTriples_106 : decode cX0_rankTriples 106 = .ok (.aload_n 0, 1) := dOf oX0_rankTriples_1 2 rfl
theorem dX0_rankTriples_107 : decode cX0_rankTriples 107 = .ok (.getfield 39, 3) := dOf oX0_rankTriples_1 3 rfl
theorem dX0_rankTriples_110 : decode cX0_rankTriples 110 = .ok (.iload_n 1, 1) := dOf oX0_rankTriples_1 4 rfl
theorem dX0_rankTriples_111 : decode cX0_rankTriples 111 = .ok (.iaload, 1) := dOf oX0_rankTriples_1 5 rfl
theorem dX0_rankTriples_112 : decode cX0_rankTriples 112 = .ok (.iload_n 3, 1) := dOf oX0_rankTriples_1 6 rfl
theorem dX0_rankTriples_113 : decode cX0_rankTriples 113 = .ok (.invokevirtual 115, 3) := dOf oX0_rankTriples_1 7 rfl
theorem dX0_rankTriples_116 : decode cX0_rankTriples 116 = .ok (.invokevirtual 157, 3) := dOf oX0_rankTriples_1 8 rfl
theorem dX0_rankTriples_119 : decode cX0_rankTriples 119 = .ok (.aload 7, 2) := dOf oX0_rankTriples_1 9 rfl
theorem dX0_rankTriples_121 : decode cX0_rankTriples 121 = .ok (.aload_n 0, 1) := dOf oX0_rankTriples_1 10 rfl
theorem dX0_rankTriples_122 : decode cX0_rankTriples 122 = .ok (.getfield 50, 3) := dOf oX0_rankTriples_1 11 rfl
theorem dX0_rankTriples_125 : decode cX0_rankTriples 125 = .ok (.iload 5, 2) := dOf oX0_rankTriples_1 12 rfl
theorem dX0_rankTriples_127 : decode cX0_rankTriples 127 = .ok (.invokevirtual 162, 3) := dOf oX0_rankTriples_1 13 rfl
theorem dX0_rankTriples_130 : decode cX0_rankTriples 130 = .ok (.invokevirtual 157, 3) := dOf oX0_rankTriples_1 14 rfl
theorem dX0_rankTriples_133 : decode cX0_rankTriples 133 = .ok (.aload_n 0, 1) := dOf oX0_rankTriples_1 15 rfl
theorem dX0_rankTriples_134 : decode cX0_rankTriples 134 = .ok (.getfield 50, 3) := dOf oX0_rankTriples_1 16 rfl
theorem dX0_rankTriples_137 : decode cX0_rankTriples 137 = .ok (.iload 5, 2) := dOf oX0_rankTriples_1 17 rfl
theorem dX0_rankTriples_139 : decode cX0_rankTriples 139 = .ok (.invokevirtual 165, 3) := dOf oX0_rankTriples_1 18 rfl
theorem dX0_rankTriples_142 : decode cX0_rankTriples 142 = .ok (.istore 5, 2) := dOf oX0_rankTriples_1 19 rfl
theorem dX0_rankTriples_144 : decode cX0_rankTriples 144 = .ok (.iinc 6 1, 3) := dOf oX0_rankTriples_1 20 rfl
theorem dX0_rankTriples_147 : decode cX0_rankTriples 147 = .ok (.goto (-80), 3) := dOf oX0_rankTriples_1 21 rfl
theorem dX0_rankTriples_150 : decode cX0_rankTriples 150 = .ok (.iinc 3 1, 3) := dOf oX0_rankTriples_1 22 rfl
theorem dX0_rankTriples_153 : decode cX0_rankTriples 153 = .ok (.goto (-151), 3) := dOf oX0_rankTriples_1 23 rfl
theorem dX0_rankTriples_156 : decode cX0_rankTriples 156 = .ok (.return_, 1) := dOf oX0_rankTriples_1 24 rfl
def eX0_nextNearest_0 : List (Nat × Instr × Nat) := [(0, .aload_n 0, 1), (1, .getfield 68, 3), (4, .aload_n 0, 1), (5, .getfield 72, 3), (8, .aaload, 1), (9, .astore_n 1, 1), (10, .aload_n 1, 1), (11, .invokevirtual 168, 3), (14, .aload_n 0, 1), (15, .dup, 1), (16, .getfield 72, 3), (19, .iconst 1, 1), (20, .iadd, 1), (21, .putfield 72, 3), (24, .aload_n 1, 1), (25, .areturn, 1)]
theorem oX0_nextNearest_0 : okC cX0_nextNearest eX0_nextNearest_0 = true := by decide +kernel
theorem dX0_nextNearest_0 : decode cX0_nextNearest 0 = .ok (.aload_n 0, 1) := dOf oX0_nextNearest_0 0 rfl
theorem dX0_nextNearest_1 : decode cX0_nextNearest 1 = .ok (.getfield 68, 3) := dOf oX0_nextNearest_0 1 rfl
theorem dX0_nextNearest_4 : decode cX0_nextNearest 4 = .ok (.aload_n 0, 1) := dOf oX0_nextNearest_0 2 rfl
theorem dX0_nextNearest_5 : decode cX0_nextNearest 5 = .ok (.getfield 72, 3) := dOf oX0_nextNearest_0 3 rfl
theorem dX0_nextNearest_8 : decode cX0_nextNearest 8 = .ok (.aaload, 1) := dOf oX0_nextNearest_0 4 rfl
theorem dX0_nextNearest_9 : decode cX0_nextNearest 9 = .ok (.astore_n 1, 1) := dOf oX0_nextNearest_0 5 rfl
theorem dX0_nextNearest_10 : decode cX0_nextNearest 10 = .ok (.aload_n 1, 1) := dOf oX0_nextNearest_0 6 rfl
theorem dX0_nextNearest_11 : decode cX0_nextNearest 11 = .ok (.invokevirtual 168, 3) := dOf oX0_nextNearest_0 7 rfl
theorem dX0_nextNearest_14 : decode cX0_nextNearest 14 = .ok (.aload_n 0, 1) := dOf oX0_nextNearest_0 8 rfl
theorem dX0_nextNearest_15 : decode cX0_nextNearest 15 = .ok (.dup, 1) := dOf oX0_nextNearest_0 9 rfl
theorem dX0_nextNearest_16 : decode cX0_nextNearest 16 = .ok (.getfield 72, 3) := dOf oX0_nextNearest_0 10 rfl
theorem dX0_nextNearest_19 : decode cX0_nextNearest 19 = .ok (.iconst 1, 1) := dOf oX0_nextNearest_0 11 rfl
theorem dX0_nextNearest_20 : decode cX0_nextNearest 20 = .ok (.iadd, 1) := dOf oX0_nextNearest_0 12 rfl
theorem dX0_nextNearest_21 : decode cX0_nextNearest 21 = .ok (.putfield 72, 3) := dOf oX0_nextNearest_0 13 rfl
theorem dX0_nextNearest_24 : decode cX0_nextNearest 24 = .ok (.aload_n 1, 1) := dOf oX0_nextNearest_0 14 rfl
theorem dX0_nextNearest_25 : decode cX0_nextNearest 25 = .ok (.areturn, 1) := dOf oX0_nextNearest_0 15 rfl
def eX1_isDigit_0 : List (Nat × Instr × Nat) := [(0, .iload_n 0, 1), (1, .bipush 48, 2), (3, .if_icmp .lt 13, 3), (6, .iload_n 0, 1), (7, .bipush 57, 2), (9, .if_icmp .gt 7, 3), (12, .iconst 1, 1), (13, .goto 4, 3), (16, .iconst 0, 1), (17, .ireturn, 1)]
theorem oX1_isDigit_0 : okC cX1_isDigit eX1_isDigit_0 = true := by decide +kernel
theorem dX1_isDigit_0 : decode cX1_isDigit 0 = .ok (.iload_n 0, 1) := dOf oX1_isDigit_0 0 rfl
theorem dX1_isDigit_1 : decode cX1_isDigit 1 = .ok (.bipush 48, 2) := dOf oX1_isDigit_0 1 rfl
theorem dX1_isDigit_3 : decode cX1_isDigit 3 = .ok (.if_icmp .lt 13, 3) := dOf oX1_isDigit_0 2 rfl
theorem dX1_isDigit_6 : decode cX1_isDigit 6 = .ok (.iload_n 0, 1) := dOf oX1_isDigit_0 3 rfl
theorem dX1_isDigit_7 : decode cX1_isDigit 7 = .ok (.bipush 57, 2) := dOf oX1_isDigit_0 4 rfl
theorem dX1_isDigit_9 : decode cX1_isDigit 9 = .ok (.if_icmp .gt 7, 3) := dOf oX1_isDigit_0 5 rfl
theorem dX1_isDigit_12 : decode cX1_isDigit 12 = .ok (.iconst 1, 1) := dOf oX1_isDigit_0 6 rfl
theorem dX1_isDigit_13 : decode cX1_isDigit 13 = .ok (.goto 4, 3) := dOf oX1_isDigit_0 7 rfl
theorem dX1_isDigit_16 : decode cX1_isDigit 16 = .ok (.iconst 0, 1) := dOf oX1_isDigit_0 8 rfl
theorem dX1_isDigit_17 : decode cX1_isDigit 17 = .ok (.ireturn, 1) := dOf oX1_isDigit_0 9 rfl
def eX1_isCapital_0 : List (Nat × Instr × Nat) := [(0, .iload_n 0, 1), (1, .bipush 65, 2), (3, .if_icmp .lt 13, 3), (6, .iload_n 0, 1), (7, .bipush 90, 2), (9, .if_icmp .gt 7, 3), (12, .iconst 1, 1), (13, .goto 4, 3), (16, .iconst 0, 1), (17, .ireturn, 1)]
theorem oX1_isCapital_0 : okC cX1_isCapital eX1_isCapital_0 = true := by decide +kernel
theorem dX1_isCapital_0 : decode cX1_isCapital 0 = .ok (.iload_n 0, 1) := dOf oX1_isCapital_0 0 rfl
theorem dX1_isCapital_1 : decode cX1_isCapital 1 = .ok (.bipush 65, 2) := dOf oX1_isCapital_0 1 rfl
theorem dX1_isCapital_3 : decode cX1_isCapital 3 = .ok (.if_icmp .lt 13, 3) := dOf oX1_isCapital_0 2 rfl
theorem dX1_isCapital_6 : decode cX1_isCapital 6 = .ok (.iload_n 0, 1) := dOf oX1_isCapital_0 3 rfl
theorem dX1_isCapital_7 : decode cX1_isCapital 7 = .ok (.bipush 90, 2) := dOf oX1_isCapital_0 4 rfl
theorem dX1_isCapital_9 : decode cX1_isCapital 9 = .ok (.if_icmp .gt 7, 3) := dOf oX1_isCapital_0 5 rfl
theorem dX1_isCapital_12 : decode cX1_isCapital 12 = .ok (.iconst 1, 1) := dOf oX1_isCapital_0 6 rfl
theorem dX1_isCapital_13 : decode cX1_isCapital 13 = .ok (.goto 4, 3) := dOf oX1_isCapital_0 7 rfl
theorem dX1_isCapital_16 : decode cX1_isCapital 16 = .ok (.iconst 0, 1) := dOf oX1_isCapital_0 8 rfl
theorem dX1_isCapital_17 : decode cX1_isCapital 17 = .ok (.ireturn, 1) := dOf oX1_isCapital_0 9 rfl
def eX1_isSmall_0 : List (Nat × Instr × Nat) := [(0, .iload_n 0, 1), (1, .bipush 97, 2), (3, .if_icmp .lt 13, 3), (6, .iload_n 0, 1), (7, .bipush 122, 2), (9, .if_icmp .gt 7, 3), (12, .iconst 1, 1), (13, .goto 4, 3), (16, .iconst 0, 1), (17, .ireturn, 1)]
theorem oX1_isSmall_0 : okC cX1_isSmall eX1_isSmall_0 = true := by decide +kernel
theorem dX1_isSmall_0 : decode cX1_isSmall 0 = .ok (.iload_n 0, 1) := dOf oX1_isSmall_0 0 rfl
theorem dX1_isSmall_1 : decode cX1_isSmall 1 = .ok (.bipush 97, 2) := dOf oX1_isSmall_0 1 rfl
theorem dX1_isSmall_3 : decode cX1_isSmall 3 = .ok (.if_icmp .lt 13, 3) := dOf oX1_isSmall_0 2 rfl
theorem dX1_isSmall_6 : decode cX1_isSmall 6 = .ok (.iload_n 0, 1) := dOf oX1_isSmall_0 3 rfl
theorem dX1_isSmall_7 : decode cX1_isSmall 7 = .ok (.bipush 122, 2) := dOf oX1_isSmall_0 4 rfl
theorem dX1_isSmall_9 : decode cX1_isSmall 9 = .ok (.if_icmp .gt 7, 3) := dOf oX1_isSmall_0 5 rfl
theorem dX1_isSmall_12 : decode cX1_isSmall 12 = .ok (.iconst 1, 1) := dOf oX1_isSmall_0 6 rfl
theorem dX1_isSmall_13 : decode cX1_isSmall 13 = .ok (.goto 4, 3) := dOf oX1_isSmall_0 7 rfl
theorem dX1_isSmall_16 : decode cX1_isSmall 16 = .ok (.iconst 0, 1) := dOf oX1_isSmall_0 8 rfl
theorem dX1_isSmall_17 : decode cX1_isSmall 17 = .ok (.ireturn, 1) := dOf oX1_isSmall_0 9 rfl
def eX1_isOfRun_0 : List (Nat × Instr × Nat) := [(0, .iload_n 0, 1), (1, .tableswitch 57 0 2 #[27, 32, 52], 27), (28, .iload_n 1, 1), (29, .invokestatic 9, 3), (32, .ireturn, 1), (33, .iload_n 1, 1), (34, .invokestatic 15, 3), (37, .ifCond .ne 10, 3), (40, .iload_n 1, 1), (41, .invokestatic 18, 3), (44, .ifCond .eq 7, 3), (47, .iconst 1, 1), (48, .goto 4, 3), (51, .iconst 0, 1), (52, .ireturn, 1), (53, .iload_n 1, 1), (54, .invokestatic 15, 3), (57, .ireturn, 1), (58, .iload_n 1, 1), (59, .invokestatic 9, 3), (62, .ifCond .ne 21, 3), (65, .iload_n 1, 1), (66, .invokestatic 15, 3), (69, .ifCond .ne 14, 3), (72, .iload_n 1, 1), (73, .invokestatic 18, 3), (76, .ifCond .ne 7, 3), (79, .iconst 1, 1), (80, .goto 4, 3), (83, .iconst 0, 1), (84, .ireturn, 1)]
theorem oX1_isOfRun_0 : okC cX1_isOfRun eX1_isOfRun_0 = true := by decide +kernel
theorem dX1_isOfRun_0 : decode cX1_isOfRun 0 = .ok (.iload_n 0, 1) := dOf oX1_isOfRun_0 0 rfl
theorem dX1_isOfRun_1 : decode cX1_isOfRun 1 = .ok (.tableswitch 57 0 2 #[27, 32, 52], 27) := dOf oX1_isOfRun_0 1 rfl
theorem dX1_isOfRun_28 : decode cX1_isOfRun 28 = .ok (.iload_n 1, 1) := dOf oX1_isOfRun_0 2 rfl
theorem dX1_isOfRun_29 : decode cX1_isOfRun 29 = .ok (.invokestatic 9, 3) := dOf oX1_isOfRun_0 3 rfl
theorem dX1_isOfRun_32 : decode cX1_isOfRun 32 = .ok (.ireturn, 1) := dOf oX1_isOfRun_0 4 rfl
theorem dX1_isOfRun_33 : decode cX1_isOfRun 33 = .ok (.iload_n 1, 1) := dOf oX1_isOfRun_0 5 rfl
theorem dX1_isOfRun_34 : decode cX1_isOfRun 34 = .ok (.invokestatic 15, 3) := dOf oX1_isOfRun_0 6 rfl
theorem dX1_isOfRun_37 : decode cX1_isOfRun 37 = .ok (.ifCond .ne 10, 3) := dOf oX1_isOfRun_0 7 rfl
theorem dX1_isOfRun_40 : decode cX1_isOfRun 40 = .ok (.iload_n 1, 1) := dOf oX1_isOfRun_0 8 rfl
theorem dX1_isOfRun_41 : decode cX1_isOfRun 41 = .ok (.invokestatic 18, 3) := dOf oX1_isOfRun_0 9 rfl
theorem dX1_isOfRun_44 : decode cX1_isOfRun 44 = .ok (.ifCond .eq 7, 3) := dOf oX1_isOfRun_0 10 rfl
theorem dX1_isOfRun_47 : decode cX1_isOfRun 47 = .ok (.iconst 1, 1) := dOf oX1_isOfRun_0 11 rfl
theorem dX1_isOfRun_48 : decode cX1_isOfRun 48 = .ok (.goto 4, 3) := dOf oX1_isOfRun_0 12 rfl
theorem dX1_isOfRun_51 : decode cX1_isOfRun 51 = .ok (.iconst 0, 1) := dOf oX1_isOfRun_0 13 rfl
theorem dX1_isOfRun_52 : decode cX1_isOfRun 52 = .ok (.ireturn, 1) := dOf oX1_isOfRun_0 14 rfl
theorem dX1_isOfRun_53 : decode cX1_isOfRun 53 = .ok (.iload_n 1, 1) := dOf oX1_isOfRun_0 15 rfl
theorem dX1_isOfRun_54 : decode cX1_isOfRun 54 = .ok (.invokestatic 15, 3) := dOf oX1_isOfRun_0 16 rfl
theorem dX1_isOfRun_57 : decode cX1_isOfRun 57 = .ok (.ireturn, 1) := dOf oX1_isOfRun_0 17 rfl
theorem dX1_isOfRun_58 : decode cX1_isOfRun 58 = .ok (.iload_n 1, 1) := dOf oX1_isOfRun_0 18 rfl
theorem dX1_isOfRun_59 : decode cX1_isOfRun 59 = .ok (.invokestatic 9, 3) := dOf oX1_isOfRun_0 19 rfl
theorem dX1_isOfRun_62 : decode cX1_isOfRun 62 = .ok (.ifCond .ne 21, 3) := dOf oX1_isOfRun_0 20 rfl
theorem dX1_isOfRun_65 : decode cX1_isOfRun 65 = .ok (.iload_n 1, 1) := dOf oX1_isOfRun_0 21 rfl
theorem dX1_isOfRun_66 : decode cX1_isOfRun 66 = .ok (.invokestatic 15, 3) := dOf oX1_isOfRun_0 22 rfl
theorem dX1_isOfRun_69 : decode cX1_isOfRun 69 = .ok (.ifCond .ne 14, 3) := dOf oX1_isOfRun_0 23 rfl
theorem dX1_isOfRun_72 : decode cX1_isOfRun 72 = .ok (.iload_n 1, 1) := dOf oX1_isOfRun_0 24 rfl
theorem dX1_isOfRun_73 : decode cX1_isOfRun 73 = .ok (.invokestatic 18, 3) := dOf oX1_isOfRun_0 25 rfl
theorem dX1_isOfRun_76 : decode cX1_isOfRun 76 = .ok (.ifCond .ne 7, 3) := dOf oX1_isOfRun_0 26 rfl
theorem dX1_isOfRun_79 : decode cX1_isOfRun 79 = .ok (.iconst 1, 1) := dOf oX1_isOfRun_0 27 rfl
theorem dX1_isOfRun_80 : decode cX1_isOfRun 80 = .ok (.goto 4, 3) := dOf oX1_isOfRun_0 28 rfl
theorem dX1_isOfRun_83 : decode cX1_isOfRun 83 = .ok (.iconst 0, 1) := dOf oX1_isOfRun_0 29 rfl
theorem dX1_isOfRun_84 : decode cX1_isOfRun 84 = .ok (.ireturn, 1) := dOf oX1_isOfRun_0 30 rfl
def eX1_turned_0 : List (Nat × Instr × Nat) := [(0, .iload_n 0, 1), (1, .iconst 1, 1), (2, .if_icmp .ne 18, 3), (5, .iload_n 1, 1), (6, .invokestatic 18, 3), (9, .ifCond .eq 11, 3), (12, .iload_n 1, 1), (13, .bipush 97, 2), (15, .isub, 1), (16, .bipush 65, 2), (18, .iadd, 1), (19, .ireturn, 1), (20, .iload_n 0, 1), (21, .iconst 2, 1), (22, .if_icmp .ne 18, 3), (25, .iload_n 1, 1), (26, .invokestatic 15, 3), (29, .ifCond .eq 11, 3), (32, .iload_n 1, 1), (33, .bipush 65, 2), (35, .isub, 1), (36, .bipush 97, 2), (38, .iadd, 1), (39, .ireturn, 1), (40, .iload_n 1, 1), (41, .ireturn, 1)]
theorem oX1_turned_0 : okC cX1_turned eX1_turned_0 = true := by decide +kernel
theorem dX1_turned_0 : decode cX1_turned 0 = .ok (.iload_n 0, 1) := dOf oX1_turned_0 0 rfl
theorem dX1_turned_1 : decode cX1_turned 1 = .ok (.iconst 1, 1) := dOf oX1_turned_0 1 rfl
theorem dX1_turned_2 : decode cX1_turned 2 = .ok (.if_icmp .ne 18, 3) := dOf oX1_turned_0 2 rfl
theorem dX1_turned_5 : decode cX1_turned 5 = .ok (.iload_n 1, 1) := dOf oX1_turned_0 3 rfl
theorem dX1_turned_6 : decode cX1_turned 6 = .ok (.invokestatic 18, 3) := dOf oX1_turned_0 4 rfl
theorem dX1_turned_9 : decode cX1_turned 9 = .ok (.ifCond .eq 11, 3) := dOf oX1_turned_0 5 rfl
theorem dX1_turned_12 : decode cX1_turned 12 = .ok (.iload_n 1, 1) := dOf oX1_turned_0 6 rfl
theorem dX1_turned_13 : decode cX1_turned 13 = .ok (.bipush 97, 2) := dOf oX1_turned_0 7 rfl
theorem dX1_turned_15 : decode cX1_turned 15 = .ok (.isub, 1) := dOf oX1_turned_0 8 rfl
theorem dX1_turned_16 : decode cX1_turned 16 = .ok (.bipush 65, 2) := dOf oX1_turned_0 9 rfl
theorem dX1_turned_18 : decode cX1_turned 18 = .ok (.iadd, 1) := dOf oX1_turned_0 10 rfl
theorem dX1_turned_19 : decode cX1_turned 19 = .ok (.ireturn, 1) := dOf oX1_turned_0 11 rfl
theorem dX1_turned_20 : decode cX1_turned 20 = .ok (.iload_n 0, 1) := dOf oX1_turned_0 12 rfl
theorem dX1_turned_21 : decode cX1_turned 21 = .ok (.iconst 2, 1) := dOf oX1_turned_0 13 rfl
theorem dX1_turned_22 : decode cX1_turned 22 = .ok (.if_icmp .ne 18, 3) := dOf oX1_turned_0 14 rfl
theorem dX1_turned_25 : decode cX1_turned 25 = .ok (.iload_n 1, 1) := dOf oX1_turned_0 15 rfl
theorem dX1_turned_26 : decode cX1_turned 26 = .ok (.invokestatic 15, 3) := dOf oX1_turned_0 16 rfl
theorem dX1_turned_29 : decode cX1_turned 29 = .ok (.ifCond .eq 11, 3) := dOf oX1_turned_0 17 rfl
theorem dX1_turned_32 : decode cX1_turned 32 = .ok (.iload_n 1, 1) := dOf oX1_turned_0 18 rfl
theorem dX1_turned_33 : decode cX1_turned 33 = .ok (.bipush 65, 2) := dOf oX1_turned_0 19 rfl
theorem dX1_turned_35 : decode cX1_turned 35 = .ok (.isub, 1) := dOf oX1_turned_0 20 rfl
theorem dX1_turned_36 : decode cX1_turned 36 = .ok (.bipush 97, 2) := dOf oX1_turned_0 21 rfl
theorem dX1_turned_38 : decode cX1_turned 38 = .ok (.iadd, 1) := dOf oX1_turned_0 22 rfl
theorem dX1_turned_39 : decode cX1_turned 39 = .ok (.ireturn, 1) := dOf oX1_turned_0 23 rfl
theorem dX1_turned_40 : decode cX1_turned 40 = .ok (.iload_n 1, 1) := dOf oX1_turned_0 24 rfl
theorem dX1_turned_41 : decode cX1_turned 41 = .ok (.ireturn, 1) := dOf oX1_turned_0 25 rfl
def eX1_shapeKindOf_0 : List (Nat × Instr × Nat) := [(0, .iload_n 0, 1), (1, .invokestatic 9, 3), (4, .ifCond .eq 5, 3), (7, .iconst 0, 1), (8, .ireturn, 1), (9, .iload_n 0, 1), (10, .invokestatic 18, 3), (13, .ifCond .eq 5, 3), (16, .iconst 1, 1), (17, .ireturn, 1), (18, .iload_n 0, 1), (19, .invokestatic 15, 3), (22, .ifCond .eq 7, 3), (25, .iconst 2, 1), (26, .goto 4, 3), (29, .iconst 3, 1), (30, .ireturn, 1)]
theorem oX1_shapeKindOf_0 : okC cX1_shapeKindOf eX1_shapeKindOf_0 = true := by decide +kernel
theorem dX1_shapeKindOf_0 : decode cX1_shapeKindOf 0 = .ok (.iload_n 0, 1) := dOf oX1_shapeKindOf_0 0 rfl
theorem dX1_shapeKindOf_1 : decode cX1_shapeKindOf 1 = .ok (.invokestatic 9, 3) := dOf oX1_shapeKindOf_0 1 rfl
theorem dX1_shapeKindOf_4 : decode cX1_shapeKindOf 4 = .ok (.ifCond .eq 5, 3) := dOf oX1_shapeKindOf_0 2 rfl
theorem dX1_shapeKindOf_7 : decode cX1_shapeKindOf 7 = .ok (.iconst 0, 1) := dOf oX1_shapeKindOf_0 3 rfl
theorem dX1_shapeKindOf_8 : decode cX1_shapeKindOf 8 = .ok (.ireturn, 1) := dOf oX1_shapeKindOf_0 4 rfl
theorem dX1_shapeKindOf_9 : decode cX1_shapeKindOf 9 = .ok (.iload_n 0, 1) := dOf oX1_shapeKindOf_0 5 rfl
theorem dX1_shapeKindOf_10 : decode cX1_shapeKindOf 10 = .ok (.invokestatic 18, 3) := dOf oX1_shapeKindOf_0 6 rfl
theorem dX1_shapeKindOf_13 : decode cX1_shapeKindOf 13 = .ok (.ifCond .eq 5, 3) := dOf oX1_shapeKindOf_0 7 rfl
theorem dX1_shapeKindOf_16 : decode cX1_shapeKindOf 16 = .ok (.iconst 1, 1) := dOf oX1_shapeKindOf_0 8 rfl
theorem dX1_shapeKindOf_17 : decode cX1_shapeKindOf 17 = .ok (.ireturn, 1) := dOf oX1_shapeKindOf_0 9 rfl
theorem dX1_shapeKindOf_18 : decode cX1_shapeKindOf 18 = .ok (.iload_n 0, 1) := dOf oX1_shapeKindOf_0 10 rfl
theorem dX1_shapeKindOf_19 : decode cX1_shapeKindOf 19 = .ok (.invokestatic 15, 3) := dOf oX1_shapeKindOf_0 11 rfl
theorem dX1_shapeKindOf_22 : decode cX1_shapeKindOf 22 = .ok (.ifCond .eq 7, 3) := dOf oX1_shapeKindOf_0 12 rfl
theorem dX1_shapeKindOf_25 : decode cX1_shapeKindOf 25 = .ok (.iconst 2, 1) := dOf oX1_shapeKindOf_0 13 rfl
theorem dX1_shapeKindOf_26 : decode cX1_shapeKindOf 26 = .ok (.goto 4, 3) := dOf oX1_shapeKindOf_0 14 rfl
theorem dX1_shapeKindOf_29 : decode cX1_shapeKindOf 29 = .ok (.iconst 3, 1) := dOf oX1_shapeKindOf_0 15 rfl
theorem dX1_shapeKindOf_30 : decode cX1_shapeKindOf 30 = .ok (.ireturn, 1) := dOf oX1_shapeKindOf_0 16 rfl
def eX1_shapeOf_0 : List (Nat × Instr × Nat) := [(0, .iconst 1, 1), (1, .istore_n 1, 1), (2, .iconst 0, 1), (3, .istore_n 2, 1), (4, .iconst (-1), 1), (5, .istore_n 3, 1), (6, .iconst 0, 1), (7, .istore 4, 2), (9, .iload 4, 2), (11, .aload_n 0, 1), (12, .getfield 21, 3), (15, .if_icmp .ge 51, 3), (18, .aload_n 0, 1), (19, .getfield 27, 3), (22, .iload 4, 2), (24, .baload, 1), (25, .invokestatic 31, 3), (28, .istore 5, 2), (30, .iload 5, 2), (32, .iload_n 3, 1), (33, .if_icmp .ne 6, 3), (36, .goto 24, 3), (39, .iload_n 2, 1), (40, .bipush 12, 2), (42, .if_icmp .ne 5, 3), (45, .iconst (-1), 1), (46, .ireturn, 1), (47, .iload_n 1, 1), (48, .iconst 2, 1), (49, .ishl, 1), (50, .iload 5, 2), (52, .ior, 1), (53, .istore_n 1, 1), (54, .iinc 2 1, 3), (57, .iload 5, 2), (59, .istore_n 3, 1), (60, .iinc 4 1, 3), (63, .goto (-54), 3), (66, .iload_n 1, 1), (67, .ireturn, 1)]
theorem oX1_shapeOf_0 : okC cX1_shapeOf eX1_shapeOf_0 = true := by decide +kernel
theorem dX1_shapeOf_0 : decode cX1_shapeOf 0 = .ok (.iconst 1, 1) := dOf oX1_shapeOf_0 0 rfl
theorem dX1_shapeOf_1 : decode cX1_shapeOf 1 = .ok (.istore_n 1, 1) := dOf oX1_shapeOf_0 1 rfl
theorem dX1_shapeOf_2 : decode cX1_shapeOf 2 = .ok (.iconst 0, 1) := dOf oX1_shapeOf_0 2 rfl
theorem dX1_shapeOf_3 : decode cX1_shapeOf 3 = .ok (.istore_n 2, 1) := dOf oX1_shapeOf_0 3 rfl
theorem dX1_shapeOf_4 : decode cX1_shapeOf 4 = .ok (.iconst (-1), 1) := dOf oX1_shapeOf_0 4 rfl
theorem dX1_shapeOf_5 : decode cX1_shapeOf 5 = .ok (.istore_n 3, 1) := dOf oX1_shapeOf_0 5 rfl
theorem dX1_shapeOf_6 : decode cX1_shapeOf 6 = .ok (.iconst 0, 1) := dOf oX1_shapeOf_0 6 rfl
theorem dX1_shapeOf_7 : decode cX1_shapeOf 7 = .ok (.istore 4, 2) := dOf oX1_shapeOf_0 7 rfl
theorem dX1_shapeOf_9 : decode cX1_shapeOf 9 = .ok (.iload 4, 2) := dOf oX1_shapeOf_0 8 rfl
theorem dX1_shapeOf_11 : decode cX1_shapeOf 11 = .ok (.aload_n 0, 1) := dOf oX1_shapeOf_0 9 rfl
theorem dX1_shapeOf_12 : decode cX1_shapeOf 12 = .ok (.getfield 21, 3) := dOf oX1_shapeOf_0 10 rfl
theorem dX1_shapeOf_15 : decode cX1_shapeOf 15 = .ok (.if_icmp .ge 51, 3) := dOf oX1_shapeOf_0 11 rfl
theorem dX1_shapeOf_18 : decode cX1_shapeOf 18 = .ok (.aload_n 0, 1) := dOf oX1_shapeOf_0 12 rfl
theorem dX1_shapeOf_19 : decode cX1_shapeOf 19 = .ok (.getfield 27, 3) := dOf oX1_shapeOf_0 13 rfl
theorem dX1_shapeOf_22 : decode cX1_shapeOf 22 = .ok (.iload 4, 2) := dOf oX1_shapeOf_0 14 rfl
theorem dX1_shapeOf_24 : decode cX1_shapeOf 24 = .ok (.baload, 1) := dOf oX1_shapeOf_0 15 rfl
theorem dX1_shapeOf_25 : decode cX1_shapeOf 25 = .ok (.invokestatic 31, 3) := dOf oX1_shapeOf_0 16 rfl
theorem dX1_shapeOf_28 : decode cX1_shapeOf 28 = .ok (.istore 5, 2) := dOf oX1_shapeOf_0 17 rfl
theorem dX1_shapeOf_30 : decode cX1_shapeOf 30 = .ok (.iload 5, 2) := dOf oX1_shapeOf_0 18 rfl
theorem dX1_shapeOf_32 : decode cX1_shapeOf 32 = .ok (.iload_n 3, 1) := dOf oX1_shapeOf_0 19 rfl
theorem dX1_shapeOf_33 : decode cX1_shapeOf 33 = .ok (.if_icmp .ne 6, 3) := dOf oX1_shapeOf_0 20 rfl
theorem dX1_shapeOf_36 : decode cX1_shapeOf 36 = .ok (.goto 24, 3) := dOf oX1_shapeOf_0 21 rfl
theorem dX1_shapeOf_39 : decode cX1_shapeOf 39 = .ok (.iload_n 2, 1) := dOf oX1_shapeOf_0 22 rfl
theorem dX1_shapeOf_40 : decode cX1_shapeOf 40 = .ok (.bipush 12, 2) := dOf oX1_shapeOf_0 23 rfl
theorem dX1_shapeOf_42 : decode cX1_shapeOf 42 = .ok (.if_icmp .ne 5, 3) := dOf oX1_shapeOf_0 24 rfl
theorem dX1_shapeOf_45 : decode cX1_shapeOf 45 = .ok (.iconst (-1), 1) := dOf oX1_shapeOf_0 25 rfl
theorem dX1_shapeOf_46 : decode cX1_shapeOf 46 = .ok (.ireturn, 1) := dOf oX1_shapeOf_0 26 rfl
theorem dX1_shapeOf_47 : decode cX1_shapeOf 47 = .ok (.iload_n 1, 1) := dOf oX1_shapeOf_0 27 rfl
theorem dX1_shapeOf_48 : decode cX1_shapeOf 48 = .ok (.iconst 2, 1) := dOf oX1_shapeOf_0 28 rfl
theorem dX1_shapeOf_49 : decode cX1_shapeOf 49 = .ok (.ishl, 1) := dOf oX1_shapeOf_0 29 rfl
theorem dX1_shapeOf_50 : decode cX1_shapeOf 50 = .ok (.iload 5, 2) := dOf oX1_shapeOf_0 30 rfl
theorem dX1_shapeOf_52 : decode cX1_shapeOf 52 = .ok (.ior, 1) := dOf oX1_shapeOf_0 31 rfl
theorem dX1_shapeOf_53 : decode cX1_shapeOf 53 = .ok (.istore_n 1, 1) := dOf oX1_shapeOf_0 32 rfl
theorem dX1_shapeOf_54 : decode cX1_shapeOf 54 = .ok (.iinc 2 1, 3) := dOf oX1_shapeOf_0 33 rfl
theorem dX1_shapeOf_57 : decode cX1_shapeOf 57 = .ok (.iload 5, 2) := dOf oX1_shapeOf_0 34 rfl
theorem dX1_shapeOf_59 : decode cX1_shapeOf 59 = .ok (.istore_n 3, 1) := dOf oX1_shapeOf_0 35 rfl
theorem dX1_shapeOf_60 : decode cX1_shapeOf 60 = .ok (.iinc 4 1, 3) := dOf oX1_shapeOf_0 36 rfl
theorem dX1_shapeOf_63 : decode cX1_shapeOf 63 = .ok (.goto (-54), 3) := dOf oX1_shapeOf_0 37 rfl
theorem dX1_shapeOf_66 : decode cX1_shapeOf 66 = .ok (.iload_n 1, 1) := dOf oX1_shapeOf_0 38 rfl
theorem dX1_shapeOf_67 : decode cX1_shapeOf 67 = .ok (.ireturn, 1) := dOf oX1_shapeOf_0 39 rfl
def eX2_init_0 : List (Nat × Instr × Nat) := [(0, .aload_n 0, 1), (1, .invokespecial 3, 3), (4, .aload_n 0, 1), (5, .ldc 11, 2), (7, .newarray .short, 2), (9, .putfield 12, 3), (12, .aload_n 0, 1), (13, .sipush 1604, 3), (16, .newarray .int, 2), (18, .putfield 16, 3), (21, .aload_n 0, 1), (22, .sipush 1604, 3), (25, .newarray .int, 2), (27, .putfield 20, 3), (30, .aload_n 0, 1), (31, .sipush 4812, 3), (34, .newarray .int, 2), (36, .putfield 23, 3), (39, .aload_n 0, 1), (40, .sipush 4812, 3), (43, .newarray .int, 2), (45, .putfield 26, 3), (48, .aload_n 0, 1), (49, .iconst 0, 1), (50, .putfield 29, 3), (53, .aload_n 0, 1), (54, .sipush 4803, 3), (57, .newarray .int, 2), (59, .putfield 33, 3), (62, .aload_n 0, 1), (63, .sipush 4803, 3), (66, .newarray .int, 2), (68, .putfield 36, 3), (71, .aload_n 0, 1), (72, .iconst 0, 1), (73, .putfield 39, 3), (76, .return_, 1)]
theorem oX2_init_0 : okC cX2_init eX2_init_0 = true := by decide +kernel
theorem dX2_init_0 : decode cX2_init 0 = .ok (.aload_n 0, 1) := dOf oX2_init_0 0 rfl
theorem dX2_init_1 : decode cX2_init 1 = .ok (.invokespecial 3, 3) := dOf oX2_init_0 1 rfl
theorem dX2_init_4 : decode cX2_init 4 = .ok (.aload_n 0, 1) := dOf oX2_init_0 2 rfl
theorem dX2_init_5 : decode cX2_init 5 = .ok (.ldc 11, 2) := dOf oX2_init_0 3 rfl
theorem dX2_init_7 : decode cX2_init 7 = .ok (.newarray .short, 2) := dOf oX2_init_0 4 rfl
theorem dX2_init_9 : decode cX2_init 9 = .ok (.putfield 12, 3) := dOf oX2_init_0 5 rfl
theorem dX2_init_12 : decode cX2_init 12 = .ok (.aload_n 0, 1) := dOf oX2_init_0 6 rfl
theorem dX2_init_13 : decode cX2_init 13 = .ok (.sipush 1604, 3) := dOf oX2_init_0 7 rfl
theorem dX2_init_16 : decode cX2_init 16 = .ok (.newarray .int, 2) := dOf oX2_init_0 8 rfl
theorem dX2_init_18 : decode cX2_init 18 = .ok (.putfield 16, 3) := dOf oX2_init_0 9 rfl
theorem dX2_init_21 : decode cX2_init 21 = .ok (.aload_n 0, 1) := dOf oX2_init_0 10 rfl
theorem dX2_init_22 : decode cX2_init 22 = .ok (.sipush 1604, 3) := dOf oX2_init_0 11 rfl
theorem dX2_init_25 : decode cX2_init 25 = .ok (.newarray .int, 2) := dOf oX2_init_0 12 rfl
theorem dX2_init_27 : decode cX2_init 27 = .ok (.putfield 20, 3) := dOf oX2_init_0 13 rfl
theorem dX2_init_30 : decode cX2_init 30 = .ok (.aload_n 0, 1) := dOf oX2_init_0 14 rfl
theorem dX2_init_31 : decode cX2_init 31 = .ok (.sipush 4812, 3) := dOf oX2_init_0 15 rfl
theorem dX2_init_34 : decode cX2_init 34 = .ok (.newarray .int, 2) := dOf oX2_init_0 16 rfl
theorem dX2_init_36 : decode cX2_init 36 = .ok (.putfield 23, 3) := dOf oX2_init_0 17 rfl
theorem dX2_init_39 : decode cX2_init 39 = .ok (.aload_n 0, 1) := dOf oX2_init_0 18 rfl
theorem dX2_init_40 : decode cX2_init 40 = .ok (.sipush 4812, 3) := dOf oX2_init_0 19 rfl
theorem dX2_init_43 : decode cX2_init 43 = .ok (.newarray .int, 2) := dOf oX2_init_0 20 rfl
theorem dX2_init_45 : decode cX2_init 45 = .ok (.putfield 26, 3) := dOf oX2_init_0 21 rfl
theorem dX2_init_48 : decode cX2_init 48 = .ok (.aload_n 0, 1) := dOf oX2_init_0 22 rfl
theorem dX2_init_49 : decode cX2_init 49 = .ok (.iconst 0, 1) := dOf oX2_init_0 23 rfl
theorem dX2_init_50 : decode cX2_init 50 = .ok (.putfield 29, 3) := dOf oX2_init_0 24 rfl
theorem dX2_init_53 : decode cX2_init 53 = .ok (.aload_n 0, 1) := dOf oX2_init_0 25 rfl
theorem dX2_init_54 : decode cX2_init 54 = .ok (.sipush 4803, 3) := dOf oX2_init_0 26 rfl
theorem dX2_init_57 : decode cX2_init 57 = .ok (.newarray .int, 2) := dOf oX2_init_0 27 rfl
theorem dX2_init_59 : decode cX2_init 59 = .ok (.putfield 33, 3) := dOf oX2_init_0 28 rfl
theorem dX2_init_62 : decode cX2_init 62 = .ok (.aload_n 0, 1) := dOf oX2_init_0 29 rfl
theorem dX2_init_63 : decode cX2_init 63 = .ok (.sipush 4803, 3) := dOf oX2_init_0 30 rfl
theorem dX2_init_66 : decode cX2_init 66 = .ok (.newarray .int, 2) := dOf oX2_init_0 31 rfl
theorem dX2_init_68 : decode cX2_init 68 = .ok (.putfield 36, 3) := dOf oX2_init_0 32 rfl
theorem dX2_init_71 : decode cX2_init 71 = .ok (.aload_n 0, 1) := dOf oX2_init_0 33 rfl
theorem dX2_init_72 : decode cX2_init 72 = .ok (.iconst 0, 1) := dOf oX2_init_0 34 rfl
theorem dX2_init_73 : decode cX2_init 73 = .ok (.putfield 39, 3) := dOf oX2_init_0 35 rfl
theorem dX2_init_76 : decode cX2_init 76 = .ok (.return_, 1) := dOf oX2_init_0 36 rfl
def eX2_clear_0 : List (Nat × Instr × Nat) := [(0, .iconst 1, 1), (1, .istore_n 1, 1), (2, .iload_n 1, 1), (3, .aload_n 0, 1), (4, .getfield 29, 3), (7, .if_icmp .gt 21, 3), (10, .aload_n 0, 1), (11, .getfield 12, 3), (14, .aload_n 0, 1), (15, .getfield 16, 3), (18, .iload_n 1, 1), (19, .iaload, 1), (20, .iconst 0, 1), (21, .sastore, 1), (22, .iinc 1 1, 3), (25, .goto (-23), 3), (28, .aload_n 0, 1), (29, .iconst 0, 1), (30, .putfield 29, 3), (33, .aload_n 0, 1), (34, .iconst 0, 1), (35, .putfield 39, 3), (38, .return_, 1)]
theorem oX2_clear_0 : okC cX2_clear eX2_clear_0 = true := by decide +kernel
theorem dX2_clear_0 : decode cX2_clear 0 = .ok (.iconst 1, 1) := dOf oX2_clear_0 0 rfl
theorem dX2_clear_1 : decode cX2_clear 1 = .ok (.istore_n 1, 1) := dOf oX2_clear_0 1 rfl
theorem dX2_clear_2 : decode cX2_clear 2 = .ok (.iload_n 1, 1) := dOf oX2_clear_0 2 rfl
theorem dX2_clear_3 : decode cX2_clear 3 = .ok (.aload_n 0, 1) := dOf oX2_clear_0 3 rfl
theorem dX2_clear_4 : decode cX2_clear 4 = .ok (.getfield 29, 3) := dOf oX2_clear_0 4 rfl
theorem dX2_clear_7 : decode cX2_clear 7 = .ok (.if_icmp .gt 21, 3) := dOf oX2_clear_0 5 rfl
theorem dX2_clear_10 : decode cX2_clear 10 = .ok (.aload_n 0, 1) := dOf oX2_clear_0 6 rfl
theorem dX2_clear_11 : decode cX2_clear 11 = .ok (.getfield 12, 3) := dOf oX2_clear_0 7 rfl
theorem dX2_clear_14 : decode cX2_clear 14 = .ok (.aload_n 0, 1) := dOf oX2_clear_0 8 rfl
theorem dX2_clear_15 : decode cX2_clear 15 = .ok (.getfield 16, 3) := dOf oX2_clear_0 9 rfl
theorem dX2_clear_18 : decode cX2_clear 18 = .ok (.iload_n 1, 1) := dOf oX2_clear_0 10 rfl
theorem dX2_clear_19 : decode cX2_clear 19 = .ok (.iaload, 1) := dOf oX2_clear_0 11 rfl
theorem dX2_clear_20 : decode cX2_clear 20 = .ok (.iconst 0, 1) := dOf oX2_clear_0 12 rfl
theorem dX2_clear_21 : decode cX2_clear 21 = .ok (.sastore, 1) := dOf oX2_clear_0 13 rfl
theorem dX2_clear_22 : decode cX2_clear 22 = .ok (.iinc 1 1, 3) := dOf oX2_clear_0 14 rfl
theorem dX2_clear_25 : decode cX2_clear 25 = .ok (.goto (-23), 3) := dOf oX2_clear_0 15 rfl
theorem dX2_clear_28 : decode cX2_clear 28 = .ok (.aload_n 0, 1) := dOf oX2_clear_0 16 rfl
theorem dX2_clear_29 : decode cX2_clear 29 = .ok (.iconst 0, 1) := dOf oX2_clear_0 17 rfl
theorem dX2_clear_30 : decode cX2_clear 30 = .ok (.putfield 29, 3) := dOf oX2_clear_0 18 rfl
theorem dX2_clear_33 : decode cX2_clear 33 = .ok (.aload_n 0, 1) := dOf oX2_clear_0 19 rfl
theorem dX2_clear_34 : decode cX2_clear 34 = .ok (.iconst 0, 1) := dOf oX2_clear_0 20 rfl
theorem dX2_clear_35 : decode cX2_clear 35 = .ok (.putfield 39, 3) := dOf oX2_clear_0 21 rfl
theorem dX2_clear_38 : decode cX2_clear 38 = .ok (.return_, 1) := dOf oX2_clear_0 22 rfl
def eX2_add_0 : List (Nat × Instr × Nat) := [(0, .iload_n 1, 1), (1, .ifCond .lt 19, 3), (4, .iload_n 1, 1), (5, .ldc 11, 2), (7, .if_icmp .ge 13, 3), (10, .aload_n 0, 1), (11, .getfield 39, 3), (14, .sipush 4803, 3), (17, .if_icmp .lt 4, 3), (20, .return_, 1), (21, .aload_n 0, 1), (22, .getfield 12, 3), (25, .iload_n 1, 1), (26, .saload, 1), (27, .ifCond .ne 8, 3), (30, .aload_n 0, 1), (31, .iload_n 1, 1), (32, .invokevirtual 42, 3), (35, .aload_n 0, 1), (36, .getfield 12, 3), (39, .iload_n 1, 1), (40, .saload, 1), (41, .istore_n 3, 1), (42, .iconst 3, 1), (43, .iload_n 3, 1), (44, .imul, 1), (45, .iload_n 2, 1), (46, .invokestatic 46, 3), (49, .iadd, 1), (50, .iconst 3, 1), (51, .isub, 1), (52, .istore 4, 2), (54, .aload_n 0, 1), (55, .getfield 33, 3), (58, .aload_n 0, 1), (59, .getfield 39, 3), (62, .iload_n 2, 1), (63, .iastore, 1), (64, .aload_n 0, 1), (65, .getfield 36, 3), (68, .aload_n 0, 1), (69, .getfield 39, 3), (72, .iconst (-1), 1), (73, .iastore, 1), (74, .aload_n 0, 1), (75, .getfield 23, 3), (78, .iload 4, 2), (80, .iaload, 1), (81, .ifCond .ge 17, 3), (84, .aload_n 0, 1), (85, .getfield 23, 3), (88, .iload 4, 2), (90, .aload_n 0, 1), (91, .getfield 39, 3), (94, .iastore, 1), (95, .goto 19, 3), (98, .aload_n 0, 1), (99, .getfield 36, 3), (102, .aload_n 0, 1), (103, .getfield 26, 3)]
theorem oX2_add_0 : okC cX2_add eX2_add_0 = true := by decide +kernel
theorem dX2_add_0 : decode cX2_add 0 = .ok (.iload_n 1, 1) := dOf oX2_add_0 0 rfl
theorem dX2_add_1 : decode cX2_add 1 = .ok (.ifCond .lt 19, 3) := dOf oX2_add_0 1 rfl
theorem dX2_add_4 : decode cX2_add 4 = .ok (.iload_n 1, 1) := dOf oX2_add_0 2 rfl
theorem dX2_add_5 : decode cX2_add 5 = .ok (.ldc 11, 2) := dOf oX2_add_0 3 rfl
theorem dX2_add_7 : decode cX2_add 7 = .ok (.if_icmp .ge 13, 3) := dOf oX2_add_0 4 rfl
theorem dX2_add_10 : decode cX2_add 10 = .ok (.aload_n 0, 1) := dOf oX2_add_0 5 rfl
theorem dX2_add_11 : decode cX2_add 11 = .ok (.getfield 39, 3) := dOf oX2_add_0 6 rfl
theorem dX2_add_14 : decode cX2_add 14 = .ok (.sipush 4803, 3) := dOf oX2_add_0 7 rfl
theorem dX2_add_17 : decode cX2_add 17 = .ok (.if_icmp .lt 4, 3) := dOf oX2_add_0 8 rfl
theorem dX2_add_20 : decode cX2_add 20 = .ok (.return_, 1) := dOf oX2_add_0 9 rfl
theorem dX2_add_21 : decode cX2_add 21 = .ok (.aload_n 0, 1) := dOf oX2_add_0 10 rfl
theorem dX2_add_22 : decode cX2_add 22 = .ok (.getfield 12, 3) := dOf oX2_add_0 11 rfl
theorem dX2_add_25 : decode cX2_add 25 = .ok (.iload_n 1, 1) := dOf oX2_add_0 12 rfl
theorem dX2_add_26 : decode cX2_add 26 = .ok (.saload, 1) := dOf oX2_add_0 13 rfl
theorem dX2_add_27 : decode cX2_add 27 = .ok (.ifCond .ne 8, 3) := dOf oX2_add_0 14 rfl
theorem dX2_add_30 : decode cX2_add 30 = .ok (.aload_n 0, 1) := dOf oX2_add_0 15 rfl
theorem dX2_add_31 : decode cX2_add 31 = .ok (.iload_n 1, 1) := dOf oX2_add_0 16 rfl
theorem dX2_add_32 : decode cX2_add 32 = .ok (.invokevirtual 42, 3) := dOf oX2_add_0 17 rfl
theorem dX2_add_35 : decode cX2_add 35 = .ok (.aload_n 0, 1) := dOf oX2_add_0 18 rfl
theorem dX2_add_36 : decode cX2_add 36 = .ok (.getfield 12, 3) := dOf oX2_add_0 19 rfl
theorem dX2_add_39 : decode cX2_add 39 = .ok (.iload_n 1, 1) := dOf oX2_add_0 20 rfl
theorem dX2_add_40 : decode cX2_add 40 = .ok (.saload, 1) := dOf oX2_add_0 21 rfl
theorem dX2_add_41 : decode cX2_add 41 = .ok (.istore_n 3, 1) := dOf oX2_add_0 22 rfl
theorem dX2_add_42 : decode cX2_add 42 = .ok (.iconst 3, 1) := dOf oX2_add_0 23 rfl
theorem dX2_add_43 : decode cX2_add 43 = .ok (.iload_n 3, 1) := dOf oX2_add_0 24 rfl
theorem dX2_add_44 : decode cX2_add 44 = .ok (.imul, 1) := dOf oX2_add_0 25 rfl
theorem dX2_add_45 : decode cX2_add 45 = .ok (.iload_n 2, 1) := dOf oX2_add_0 26 rfl
theorem dX2_add_46 : decode cX2_add 46 = .ok (.invokestatic 46, 3) := dOf oX2_add_0 27 rfl
theorem dX2_add_49 : decode cX2_add 49 = .ok (.iadd, 1) := dOf oX2_add_0 28 rfl
theorem dX2_add_50 : decode cX2_add 50 = .ok (.iconst 3, 1) := dOf oX2_add_0 29 rfl
theorem dX2_add_51 : decode cX2_add 51 = .ok (.isub, 1) := dOf oX2_add_0 30 rfl
theorem dX2_add_52 : decode cX2_add 52 = .ok (.istore 4, 2) := dOf oX2_add_0 31 rfl
theorem dX2_add_54 : decode cX2_add 54 = .ok (.aload_n 0, 1) := dOf oX2_add_0 32 rfl
theorem dX2_add_55 : decode cX2_add 55 = .ok (.getfield 33, 3) := dOf oX2_add_0 33 rfl
theorem dX2_add_58 : decode cX2_add 58 = .ok (.aload_n 0, 1) := dOf oX2_add_0 34 rfl
theorem dX2_add_59 : decode cX2_add 59 = .ok (.getfield 39, 3) := dOf oX2_add_0 35 rfl
theorem dX2_add_62 : decode cX2_add 62 = .ok (.iload_n 2, 1) := dOf oX2_add_0 36 rfl
theorem dX2_add_63 : decode cX2_add 63 = .ok (.iastore, 1) := dOf oX2_add_0 37 rfl
theorem dX2_add_64 : decode cX2_add 64 = .ok (.aload_n 0, 1) := dOf oX2_add_0 38 rfl
theorem dX2_add_65 : decode cX2_add 65 = .ok (.getfield 36, 3) := dOf oX2_add_0 39 rfl
theorem dX2_add_68 : decode cX2_add 68 = .ok (.aload_n 0, 1) := dOf oX2_add_0 40 rfl
theorem dX2_add_69 : decode cX2_add 69 = .ok (.getfield 39, 3) := dOf oX2_add_0 41 rfl
theorem dX2_add_72 : decode cX2_add 72 = .ok (.iconst (-1), 1) := dOf oX2_add_0 42 rfl
theorem dX2_add_73 : decode cX2_add 73 = .ok (.iastore, 1) := dOf oX2_add_0 43 rfl
theorem dX2_add_74 : decode cX2_add 74 = .ok (.aload_n 0, 1) := dOf oX2_add_0 44 rfl
theorem dX2_add_75 : decode cX2_add 75 = .ok (.getfield 23, 3) := dOf oX2_add_0 45 rfl
theorem dX2_add_78 : decode cX2_add 78 = .ok (.iload 4, 2) := dOf oX2_add_0 46 rfl
theorem dX2_add_80 : decode cX2_add 80 = .ok (.iaload, 1) := dOf oX2_add_0 47 rfl
theorem dX2_add_81 : decode cX2_add 81 = .ok (.ifCond .ge 17, 3) := dOf oX2_add_0 48 rfl
theorem dX2_add_84 : decode cX2_add 84 = .ok (.aload_n 0, 1) := dOf oX2_add_0 49 rfl
theorem dX2_add_85 : decode cX2_add 85 = .ok (.getfield 23, 3) := dOf oX2_add_0 50 rfl
theorem dX2_add_88 : decode cX2_add 88 = .ok (.iload 4, 2) := dOf oX2_add_0 51 rfl
theorem dX2_add_90 : decode cX2_add 90 = .ok (.aload_n 0, 1) := dOf oX2_add_0 52 rfl
theorem dX2_add_91 : decode cX2_add 91 = .ok (.getfield 39, 3) := dOf oX2_add_0 53 rfl
theorem dX2_add_94 : decode cX2_add 94 = .ok (.iastore, 1) := dOf oX2_add_0 54 rfl
theorem dX2_add_95 : decode cX2_add 95 = .ok (.goto 19, 3) := dOf oX2_add_0 55 rfl
theorem dX2_add_98 : decode cX2_add 98 = .ok (.aload_n 0, 1) := dOf oX2_add_0 56 rfl
theorem dX2_add_99 : decode cX2_add 99 = .ok (.getfield 36, 3) := dOf oX2_add_0 57 rfl
theorem dX2_add_102 : decode cX2_add 102 = .ok (.aload_n 0, 1) := dOf oX2_add_0 58 rfl
theorem dX2_add_103 : decode cX2_add 103 = .ok (.getfield 26, 3) := dOf oX2_add_0 59 rfl
def eX2_add_1 : List (Nat × Instr × Nat) := [(106, .iload 4, 2), (108, .iaload, 1), (109, .aload_n 0, 1), (110, .getfield 39, 3), (113, .iastore, 1), (114, .aload_n 0, 1), (115, .getfield 26, 3), (118, .iload 4, 2), (120, .aload_n 0, 1), (121, .getfield 39, 3), (124, .iastore, 1), (125, .aload_n 0, 1), (126, .getfield 20, 3), (129, .iload_n 3, 1), (130, .dup2, 1), (131, .iaload, 1), (132, .iconst 1, 1), (133, .iadd, 1), (134, .iastore, 1), (135, .aload_n 0, 1), (136, .dup, 1), (137, .getfield 39, 3), (140, .iconst 1, 1), (141, .iadd, 1), (142, .putfield 39, 3), (145, .return_, 1)]
theorem oX2_add_1 : okC cX2_add eX2_add_1 = true := by decide +kernel
theorem dX2_add_106 : decode cX2_add 106 = .ok (.iload 4, 2) := dOf oX2_add_1 0 rfl
theorem dX2_add_108 : decode cX2_add 108 = .ok (.iaload, 1) := dOf oX2_add_1 1 rfl
theorem dX2_add_109 : decode cX2_add 109 = .ok (.aload_n 0, 1) := dOf oX2_add_1 2 rfl
theorem dX2_add_110 : decode cX2_add 110 = .ok (.getfield 39, 3) := dOf oX2_add_1 3 rfl
theorem dX2_add_113 : decode cX2_add 113 = .ok (.iastore, 1) := dOf oX2_add_1 4 rfl
theorem dX2_add_114 : decode cX2_add 114 = .ok (.aload_n 0, 1) := dOf oX2_add_1 5 rfl
theorem dX2_add_115 : decode cX2_add 115 = .ok (.getfield 26, 3) := dOf oX2_add_1 6 rfl
theorem dX2_add_118 : decode cX2_add 118 = .ok (.iload 4, 2) := dOf oX2_add_1 7 rfl
theorem dX2_add_120 : decode cX2_add 120 = .ok (.aload_n 0, 1) := dOf oX2_add_1 8 rfl
theorem dX2_add_121 : decode cX2_add 121 = .ok (.getfield 39, 3) := dOf oX2_add_1 9 rfl
theorem dX2_add_124 : decode cX2_add 124 = .ok (.iastore, 1) := dOf oX2_add_1 10 rfl
theorem dX2_add_125 : decode cX2_add 125 = .ok (.aload_n 0, 1) := dOf oX2_add_1 11 rfl
theorem dX2_add_126 : decode cX2_add 126 = .ok (.getfield 20, 3) := dOf oX2_add_1 12 rfl
theorem dX2_add_129 : decode cX2_add 129 = .ok (.iload_n 3, 1) := dOf oX2_add_1 13 rfl
theorem dX2_add_130 : decode cX2_add 130 = .ok (.dup2, 1) := dOf oX2_add_1 14 rfl
theorem dX2_add_131 : decode cX2_add 131 = .ok (.iaload, 1) := dOf oX2_add_1 15 rfl
theorem dX2_add_132 : decode cX2_add 132 = .ok (.iconst 1, 1) := dOf oX2_add_1 16 rfl
theorem dX2_add_133 : decode cX2_add 133 = .ok (.iadd, 1) := dOf oX2_add_1 17 rfl
theorem dX2_add_134 : decode cX2_add 134 = .ok (.iastore, 1) := dOf oX2_add_1 18 rfl
theorem dX2_add_135 : decode cX2_add 135 = .ok (.aload_n 0, 1) := dOf oX2_add_1 19 rfl
theorem dX2_add_136 : decode cX2_add 136 = .ok (.dup, 1) := dOf oX2_add_1 20 rfl
theorem dX2_add_137 : decode cX2_add 137 = .ok (.getfield 39, 3) := dOf oX2_add_1 21 rfl
theorem dX2_add_140 : decode cX2_add 140 = .ok (.iconst 1, 1) := dOf oX2_add_1 22 rfl
theorem dX2_add_141 : decode cX2_add 141 = .ok (.iadd, 1) := dOf oX2_add_1 23 rfl
theorem dX2_add_142 : decode cX2_add 142 = .ok (.putfield 39, 3) := dOf oX2_add_1 24 rfl
theorem dX2_add_145 : decode cX2_add 145 = .ok (.return_, 1) := dOf oX2_add_1 25 rfl
def eX2_openGroup_0 : List (Nat × Instr × Nat) := [(0, .aload_n 0, 1), (1, .dup, 1), (2, .getfield 29, 3), (5, .iconst 1, 1), (6, .iadd, 1), (7, .putfield 29, 3), (10, .aload_n 0, 1), (11, .getfield 12, 3), (14, .iload_n 1, 1), (15, .aload_n 0, 1), (16, .getfield 29, 3), (19, .i2s, 1), (20, .sastore, 1), (21, .aload_n 0, 1), (22, .getfield 16, 3), (25, .aload_n 0, 1), (26, .getfield 29, 3), (29, .iload_n 1, 1), (30, .iastore, 1), (31, .aload_n 0, 1), (32, .getfield 20, 3), (35, .aload_n 0, 1), (36, .getfield 29, 3), (39, .iconst 0, 1), (40, .iastore, 1), (41, .iconst 0, 1), (42, .istore_n 2, 1), (43, .iload_n 2, 1), (44, .iconst 3, 1), (45, .if_icmp .ge 23, 3), (48, .aload_n 0, 1), (49, .getfield 23, 3), (52, .iconst 3, 1), (53, .aload_n 0, 1), (54, .getfield 29, 3), (57, .imul, 1), (58, .iload_n 2, 1), (59, .iadd, 1), (60, .iconst (-1), 1), (61, .iastore, 1), (62, .iinc 2 1, 3), (65, .goto (-22), 3), (68, .return_, 1)]
theorem oX2_openGroup_0 : okC cX2_openGroup eX2_openGroup_0 = true := by decide +kernel
theorem dX2_openGroup_0 : decode cX2_openGroup 0 = .ok (.aload_n 0, 1) := dOf oX2_openGroup_0 0 rfl
theorem dX2_openGroup_1 : decode cX2_openGroup 1 = .ok (.dup, 1) := dOf oX2_openGroup_0 1 rfl
theorem dX2_openGroup_2 : decode cX2_openGroup 2 = .ok (.getfield 29, 3) := dOf oX2_openGroup_0 2 rfl
theorem dX2_openGroup_5 : decode cX2_openGroup 5 = .ok (.iconst 1, 1) := dOf oX2_openGroup_0 3 rfl
theorem dX2_openGroup_6 : decode cX2_openGroup 6 = .ok (.iadd, 1) := dOf oX2_openGroup_0 4 rfl
theorem dX2_openGroup_7 : decode cX2_openGroup 7 = .ok (.putfield 29, 3) := dOf oX2_openGroup_0 5 rfl
theorem dX2_openGroup_10 : decode cX2_openGroup 10 = .ok (.aload_n 0, 1) := dOf oX2_openGroup_0 6 rfl
theorem dX2_openGroup_11 : decode cX2_openGroup 11 = .ok (.getfield 12, 3) := dOf oX2_openGroup_0 7 rfl
theorem dX2_openGroup_14 : decode cX2_openGroup 14 = .ok (.iload_n 1, 1) := dOf oX2_openGroup_0 8 rfl
theorem dX2_openGroup_15 : decode cX2_openGroup 15 = .ok (.aload_n 0, 1) := dOf oX2_openGroup_0 9 rfl
theorem dX2_openGroup_16 : decode cX2_openGroup 16 = .ok (.getfield 29, 3) := dOf oX2_openGroup_0 10 rfl
theorem dX2_openGroup_19 : decode cX2_openGroup 19 = .ok (.i2s, 1) := dOf oX2_openGroup_0 11 rfl
theorem dX2_openGroup_20 : decode cX2_openGroup 20 = .ok (.sastore, 1) := dOf oX2_openGroup_0 12 rfl
theorem dX2_openGroup_21 : decode cX2_openGroup 21 = .ok (.aload_n 0, 1) := dOf oX2_openGroup_0 13 rfl
theorem dX2_openGroup_22 : decode cX2_openGroup 22 = .ok (.getfield 16, 3) := dOf oX2_openGroup_0 14 rfl
theorem dX2_openGroup_25 : decode cX2_openGroup 25 = .ok (.aload_n 0, 1) := dOf oX2_openGroup_0 15 rfl
theorem dX2_openGroup_26 : decode cX2_openGroup 26 = .ok (.getfield 29, 3) := dOf oX2_openGroup_0 16 rfl
theorem dX2_openGroup_29 : decode cX2_openGroup 29 = .ok (.iload_n 1, 1) := dOf oX2_openGroup_0 17 rfl
theorem dX2_openGroup_30 : decode cX2_openGroup 30 = .ok (.iastore, 1) := dOf oX2_openGroup_0 18 rfl
theorem dX2_openGroup_31 : decode cX2_openGroup 31 = .ok (.aload_n 0, 1) := dOf oX2_openGroup_0 19 rfl
theorem dX2_openGroup_32 : decode cX2_openGroup 32 = .ok (.getfield 20, 3) := dOf oX2_openGroup_0 20 rfl
theorem dX2_openGroup_35 : decode cX2_openGroup 35 = .ok (.aload_n 0, 1) := dOf oX2_openGroup_0 21 rfl
theorem dX2_openGroup_36 : decode cX2_openGroup 36 = .ok (.getfield 29, 3) := dOf oX2_openGroup_0 22 rfl
theorem dX2_openGroup_39 : decode cX2_openGroup 39 = .ok (.iconst 0, 1) := dOf oX2_openGroup_0 23 rfl
theorem dX2_openGroup_40 : decode cX2_openGroup 40 = .ok (.iastore, 1) := dOf oX2_openGroup_0 24 rfl
theorem dX2_openGroup_41 : decode cX2_openGroup 41 = .ok (.iconst 0, 1) := dOf oX2_openGroup_0 25 rfl
theorem dX2_openGroup_42 : decode cX2_openGroup 42 = .ok (.istore_n 2, 1) := dOf oX2_openGroup_0 26 rfl
theorem dX2_openGroup_43 : decode cX2_openGroup 43 = .ok (.iload_n 2, 1) := dOf oX2_openGroup_0 27 rfl
theorem dX2_openGroup_44 : decode cX2_openGroup 44 = .ok (.iconst 3, 1) := dOf oX2_openGroup_0 28 rfl
theorem dX2_openGroup_45 : decode cX2_openGroup 45 = .ok (.if_icmp .ge 23, 3) := dOf oX2_openGroup_0 29 rfl
theorem dX2_openGroup_48 : decode cX2_openGroup 48 = .ok (.aload_n 0, 1) := dOf oX2_openGroup_0 30 rfl
theorem dX2_openGroup_49 : decode cX2_openGroup 49 = .ok (.getfield 23, 3) := dOf oX2_openGroup_0 31 rfl
theorem dX2_openGroup_52 : decode cX2_openGroup 52 = .ok (.iconst 3, 1) := dOf oX2_openGroup_0 32 rfl
theorem dX2_openGroup_53 : decode cX2_openGroup 53 = .ok (.aload_n 0, 1) := dOf oX2_openGroup_0 33 rfl
theorem dX2_openGroup_54 : decode cX2_openGroup 54 = .ok (.getfield 29, 3) := dOf oX2_openGroup_0 34 rfl
theorem dX2_openGroup_57 : decode cX2_openGroup 57 = .ok (.imul, 1) := dOf oX2_openGroup_0 35 rfl
theorem dX2_openGroup_58 : decode cX2_openGroup 58 = .ok (.iload_n 2, 1) := dOf oX2_openGroup_0 36 rfl
theorem dX2_openGroup_59 : decode cX2_openGroup 59 = .ok (.iadd, 1) := dOf oX2_openGroup_0 37 rfl
theorem dX2_openGroup_60 : decode cX2_openGroup 60 = .ok (.iconst (-1), 1) := dOf oX2_openGroup_0 38 rfl
theorem dX2_openGroup_61 : decode cX2_openGroup 61 = .ok (.iastore, 1) := dOf oX2_openGroup_0 39 rfl
theorem dX2_openGroup_62 : decode cX2_openGroup 62 = .ok (.iinc 2 1, 3) := dOf oX2_openGroup_0 40 rfl
theorem dX2_openGroup_65 : decode cX2_openGroup 65 = .ok (.goto (-22), 3) := dOf oX2_openGroup_0 41 rfl
theorem dX2_openGroup_68 : decode cX2_openGroup 68 = .ok (.return_, 1) := dOf oX2_openGroup_0 42 rfl
def eX2_groupAt_0 : List (Nat × Instr × Nat) := [(0, .iload_n 1, 1), (1, .ifCond .lt 9, 3), (4, .iload_n 1, 1), (5, .ldc 11, 2), (7, .if_icmp .lt 7, 3), (10, .iconst 0, 1), (11, .goto 9, 3), (14, .aload_n 0, 1), (15, .getfield 12, 3), (18, .iload_n 1, 1), (19, .saload, 1), (20, .ireturn, 1)]
theorem oX2_groupAt_0 : okC cX2_groupAt eX2_groupAt_0 = true := by decide +kernel
theorem dX2_groupAt_0 : decode cX2_groupAt 0 = .ok (.iload_n 1, 1) := dOf oX2_groupAt_0 0 rfl
theorem dX2_groupAt_1 : decode cX2_groupAt 1 = .ok (.ifCond .lt 9, 3) := dOf oX2_groupAt_0 1 rfl
theorem dX2_groupAt_4 : decode cX2_groupAt 4 = .ok (.iload_n 1, 1) := dOf oX2_groupAt_0 2 rfl
theorem dX2_groupAt_5 : decode cX2_groupAt 5 = .ok (.ldc 11, 2) := dOf oX2_groupAt_0 3 rfl
theorem dX2_groupAt_7 : decode cX2_groupAt 7 = .ok (.if_icmp .lt 7, 3) := dOf oX2_groupAt_0 4 rfl
theorem dX2_groupAt_10 : decode cX2_groupAt 10 = .ok (.iconst 0, 1) := dOf oX2_groupAt_0 5 rfl
theorem dX2_groupAt_11 : decode cX2_groupAt 11 = .ok (.goto 9, 3) := dOf oX2_groupAt_0 6 rfl
theorem dX2_groupAt_14 : decode cX2_groupAt 14 = .ok (.aload_n 0, 1) := dOf oX2_groupAt_0 7 rfl
theorem dX2_groupAt_15 : decode cX2_groupAt 15 = .ok (.getfield 12, 3) := dOf oX2_groupAt_0 8 rfl
theorem dX2_groupAt_18 : decode cX2_groupAt 18 = .ok (.iload_n 1, 1) := dOf oX2_groupAt_0 9 rfl
theorem dX2_groupAt_19 : decode cX2_groupAt 19 = .ok (.saload, 1) := dOf oX2_groupAt_0 10 rfl
theorem dX2_groupAt_20 : decode cX2_groupAt 20 = .ok (.ireturn, 1) := dOf oX2_groupAt_0 11 rfl
def eX2_waysFrom_0 : List (Nat × Instr × Nat) := [(0, .aload_n 0, 1), (1, .iload_n 1, 1), (2, .invokevirtual 52, 3), (5, .istore_n 2, 1), (6, .iload_n 2, 1), (7, .ifCond .ne 7, 3), (10, .iconst 0, 1), (11, .goto 9, 3), (14, .aload_n 0, 1), (15, .getfield 20, 3), (18, .iload_n 2, 1), (19, .iaload, 1), (20, .ireturn, 1)]
theorem oX2_waysFrom_0 : okC cX2_waysFrom eX2_waysFrom_0 = true := by decide +kernel
theorem dX2_waysFrom_0 : decode cX2_waysFrom 0 = .ok (.aload_n 0, 1) := dOf oX2_waysFrom_0 0 rfl
theorem dX2_waysFrom_1 : decode cX2_waysFrom 1 = .ok (.iload_n 1, 1) := dOf oX2_waysFrom_0 1 rfl
theorem dX2_waysFrom_2 : decode cX2_waysFrom 2 = .ok (.invokevirtual 52, 3) := dOf oX2_waysFrom_0 2 rfl
theorem dX2_waysFrom_5 : decode cX2_waysFrom 5 = .ok (.istore_n 2, 1) := dOf oX2_waysFrom_0 3 rfl
theorem dX2_waysFrom_6 : decode cX2_waysFrom 6 = .ok (.iload_n 2, 1) := dOf oX2_waysFrom_0 4 rfl
theorem dX2_waysFrom_7 : decode cX2_waysFrom 7 = .ok (.ifCond .ne 7, 3) := dOf oX2_waysFrom_0 5 rfl
theorem dX2_waysFrom_10 : decode cX2_waysFrom 10 = .ok (.iconst 0, 1) := dOf oX2_waysFrom_0 6 rfl
theorem dX2_waysFrom_11 : decode cX2_waysFrom 11 = .ok (.goto 9, 3) := dOf oX2_waysFrom_0 7 rfl
theorem dX2_waysFrom_14 : decode cX2_waysFrom 14 = .ok (.aload_n 0, 1) := dOf oX2_waysFrom_0 8 rfl
theorem dX2_waysFrom_15 : decode cX2_waysFrom 15 = .ok (.getfield 20, 3) := dOf oX2_waysFrom_0 9 rfl
theorem dX2_waysFrom_18 : decode cX2_waysFrom 18 = .ok (.iload_n 2, 1) := dOf oX2_waysFrom_0 10 rfl
theorem dX2_waysFrom_19 : decode cX2_waysFrom 19 = .ok (.iaload, 1) := dOf oX2_waysFrom_0 11 rfl
theorem dX2_waysFrom_20 : decode cX2_waysFrom 20 = .ok (.ireturn, 1) := dOf oX2_waysFrom_0 12 rfl
def eX2_headOf_0 : List (Nat × Instr × Nat) := [(0, .aload_n 0, 1), (1, .iload_n 1, 1), (2, .invokevirtual 52, 3), (5, .istore_n 3, 1), (6, .iload_n 3, 1), (7, .ifCond .eq 13, 3), (10, .iload_n 2, 1), (11, .iconst 3, 1), (12, .if_icmp .lt 8, 3), (15, .iload_n 2, 1), (16, .iconst 5, 1), (17, .if_icmp .le 7, 3), (20, .iconst (-1), 1), (21, .goto 15, 3), (24, .aload_n 0, 1), (25, .getfield 23, 3), (28, .iconst 3, 1), (29, .iload_n 3, 1), (30, .imul, 1), (31, .iload_n 2, 1), (32, .iadd, 1), (33, .iconst 3, 1), (34, .isub, 1), (35, .iaload, 1), (36, .ireturn, 1)]
theorem oX2_headOf_0 : okC cX2_headOf eX2_headOf_0 = true := by decide +kernel
theorem dX2_headOf_0 : decode cX2_headOf 0 = .ok (.aload_n 0, 1) := dOf oX2_headOf_0 0 rfl
theorem dX2_headOf_1 : decode cX2_headOf 1 = .ok (.iload_n 1, 1) := dOf oX2_headOf_0 1 rfl
theorem dX2_headOf_2 : decode cX2_headOf 2 = .ok (.invokevirtual 52, 3) := dOf oX2_headOf_0 2 rfl
theorem dX2_headOf_5 : decode cX2_headOf 5 = .ok (.istore_n 3, 1) := dOf oX2_headOf_0 3 rfl
theorem dX2_headOf_6 : decode cX2_headOf 6 = .ok (.iload_n 3, 1) := dOf oX2_headOf_0 4 rfl
theorem dX2_headOf_7 : decode cX2_headOf 7 = .ok (.ifCond .eq 13, 3) := dOf oX2_headOf_0 5 rfl
theorem dX2_headOf_10 : decode cX2_headOf 10 = .ok (.iload_n 2, 1) := dOf oX2_headOf_0 6 rfl
theorem dX2_headOf_11 : decode cX2_headOf 11 = .ok (.iconst 3, 1) := dOf oX2_headOf_0 7 rfl
theorem dX2_headOf_12 : decode cX2_headOf 12 = .ok (.if_icmp .lt 8, 3) := dOf oX2_headOf_0 8 rfl
theorem dX2_headOf_15 : decode cX2_headOf 15 = .ok (.iload_n 2, 1) := dOf oX2_headOf_0 9 rfl
theorem dX2_headOf_16 : decode cX2_headOf 16 = .ok (.iconst 5, 1) := dOf oX2_headOf_0 10 rfl
theorem dX2_headOf_17 : decode cX2_headOf 17 = .ok (.if_icmp .le 7, 3) := dOf oX2_headOf_0 11 rfl
theorem dX2_headOf_20 : decode cX2_headOf 20 = .ok (.iconst (-1), 1) := dOf oX2_headOf_0 12 rfl
theorem dX2_headOf_21 : decode cX2_headOf 21 = .ok (.goto 15, 3) := dOf oX2_headOf_0 13 rfl
theorem dX2_headOf_24 : decode cX2_headOf 24 = .ok (.aload_n 0, 1) := dOf oX2_headOf_0 14 rfl
theorem dX2_headOf_25 : decode cX2_headOf 25 = .ok (.getfield 23, 3) := dOf oX2_headOf_0 15 rfl
theorem dX2_headOf_28 : decode cX2_headOf 28 = .ok (.iconst 3, 1) := dOf oX2_headOf_0 16 rfl
theorem dX2_headOf_29 : decode cX2_headOf 29 = .ok (.iload_n 3, 1) := dOf oX2_headOf_0 17 rfl
theorem dX2_headOf_30 : decode cX2_headOf 30 = .ok (.imul, 1) := dOf oX2_headOf_0 18 rfl
theorem dX2_headOf_31 : decode cX2_headOf 31 = .ok (.iload_n 2, 1) := dOf oX2_headOf_0 19 rfl
theorem dX2_headOf_32 : decode cX2_headOf 32 = .ok (.iadd, 1) := dOf oX2_headOf_0 20 rfl
theorem dX2_headOf_33 : decode cX2_headOf 33 = .ok (.iconst 3, 1) := dOf oX2_headOf_0 21 rfl
theorem dX2_headOf_34 : decode cX2_headOf 34 = .ok (.isub, 1) := dOf oX2_headOf_0 22 rfl
theorem dX2_headOf_35 : decode cX2_headOf 35 = .ok (.iaload, 1) := dOf oX2_headOf_0 23 rfl
theorem dX2_headOf_36 : decode cX2_headOf 36 = .ok (.ireturn, 1) := dOf oX2_headOf_0 24 rfl
def eX2_nextOf_0 : List (Nat × Instr × Nat) := [(0, .iload_n 1, 1), (1, .ifCond .lt 11, 3), (4, .iload_n 1, 1), (5, .aload_n 0, 1), (6, .getfield 39, 3), (9, .if_icmp .lt 7, 3), (12, .iconst (-1), 1), (13, .goto 9, 3), (16, .aload_n 0, 1), (17, .getfield 36, 3), (20, .iload_n 1, 1), (21, .iaload, 1), (22, .ireturn, 1)]
theorem oX2_nextOf_0 : okC cX2_nextOf eX2_nextOf_0 = true := by decide +kernel
theorem dX2_nextOf_0 : decode cX2_nextOf 0 = .ok (.iload_n 1, 1) := dOf oX2_nextOf_0 0 rfl
theorem dX2_nextOf_1 : decode cX2_nextOf 1 = .ok (.ifCond .lt 11, 3) := dOf oX2_nextOf_0 1 rfl
theorem dX2_nextOf_4 : decode cX2_nextOf 4 = .ok (.iload_n 1, 1) := dOf oX2_nextOf_0 2 rfl
theorem dX2_nextOf_5 : decode cX2_nextOf 5 = .ok (.aload_n 0, 1) := dOf oX2_nextOf_0 3 rfl
theorem dX2_nextOf_6 : decode cX2_nextOf 6 = .ok (.getfield 39, 3) := dOf oX2_nextOf_0 4 rfl
theorem dX2_nextOf_9 : decode cX2_nextOf 9 = .ok (.if_icmp .lt 7, 3) := dOf oX2_nextOf_0 5 rfl
theorem dX2_nextOf_12 : decode cX2_nextOf 12 = .ok (.iconst (-1), 1) := dOf oX2_nextOf_0 6 rfl
theorem dX2_nextOf_13 : decode cX2_nextOf 13 = .ok (.goto 9, 3) := dOf oX2_nextOf_0 7 rfl
theorem dX2_nextOf_16 : decode cX2_nextOf 16 = .ok (.aload_n 0, 1) := dOf oX2_nextOf_0 8 rfl
theorem dX2_nextOf_17 : decode cX2_nextOf 17 = .ok (.getfield 36, 3) := dOf oX2_nextOf_0 9 rfl
theorem dX2_nextOf_20 : decode cX2_nextOf 20 = .ok (.iload_n 1, 1) := dOf oX2_nextOf_0 10 rfl
theorem dX2_nextOf_21 : decode cX2_nextOf 21 = .ok (.iaload, 1) := dOf oX2_nextOf_0 11 rfl
theorem dX2_nextOf_22 : decode cX2_nextOf 22 = .ok (.ireturn, 1) := dOf oX2_nextOf_0 12 rfl
def eX2_pieceAt_0 : List (Nat × Instr × Nat) := [(0, .iload_n 1, 1), (1, .ifCond .lt 11, 3), (4, .iload_n 1, 1), (5, .aload_n 0, 1), (6, .getfield 39, 3), (9, .if_icmp .lt 8, 3), (12, .bipush (-4), 2), (14, .goto 9, 3), (17, .aload_n 0, 1), (18, .getfield 33, 3), (21, .iload_n 1, 1), (22, .iaload, 1), (23, .ireturn, 1)]
theorem oX2_pieceAt_0 : okC cX2_pieceAt eX2_pieceAt_0 = true := by decide +kernel
theorem dX2_pieceAt_0 : decode cX2_pieceAt 0 = .ok (.iload_n 1, 1) := dOf oX2_pieceAt_0 0 rfl
theorem dX2_pieceAt_1 : decode cX2_pieceAt 1 = .ok (.ifCond .lt 11, 3) := dOf oX2_pieceAt_0 1 rfl
theorem dX2_pieceAt_4 : decode cX2_pieceAt 4 = .ok (.iload_n 1, 1) := dOf oX2_pieceAt_0 2 rfl
theorem dX2_pieceAt_5 : decode cX2_pieceAt 5 = .ok (.aload_n 0, 1) := dOf oX2_pieceAt_0 3 rfl
theorem dX2_pieceAt_6 : decode cX2_pieceAt 6 = .ok (.getfield 39, 3) := dOf oX2_pieceAt_0 4 rfl
theorem dX2_pieceAt_9 : decode cX2_pieceAt 9 = .ok (.if_icmp .lt 8, 3) := dOf oX2_pieceAt_0 5 rfl
theorem dX2_pieceAt_12 : decode cX2_pieceAt 12 = .ok (.bipush (-4), 2) := dOf oX2_pieceAt_0 6 rfl
theorem dX2_pieceAt_14 : decode cX2_pieceAt 14 = .ok (.goto 9, 3) := dOf oX2_pieceAt_0 7 rfl
theorem dX2_pieceAt_17 : decode cX2_pieceAt 17 = .ok (.aload_n 0, 1) := dOf oX2_pieceAt_0 8 rfl
theorem dX2_pieceAt_18 : decode cX2_pieceAt 18 = .ok (.getfield 33, 3) := dOf oX2_pieceAt_0 9 rfl
theorem dX2_pieceAt_21 : decode cX2_pieceAt 21 = .ok (.iload_n 1, 1) := dOf oX2_pieceAt_0 10 rfl
theorem dX2_pieceAt_22 : decode cX2_pieceAt 22 = .ok (.iaload, 1) := dOf oX2_pieceAt_0 11 rfl
theorem dX2_pieceAt_23 : decode cX2_pieceAt 23 = .ok (.ireturn, 1) := dOf oX2_pieceAt_0 12 rfl
def eX3_init_0 : List (Nat × Instr × Nat) := [(0, .aload_n 0, 1), (1, .invokespecial 3, 3), (4, .aload_n 0, 1), (5, .iconst 3, 1), (6, .newarray .int, 2), (8, .putfield 9, 3), (11, .aload_n 0, 1), (12, .iconst 0, 1), (13, .putfield 15, 3), (16, .return_, 1)]
theorem oX3_init_0 : okC cX3_init eX3_init_0 = true := by decide +kernel
theorem dX3_init_0 : decode cX3_init 0 = .ok (.aload_n 0, 1) := dOf oX3_init_0 0 rfl
theorem dX3_init_1 : decode cX3_init 1 = .ok (.invokespecial 3, 3) := dOf oX3_init_0 1 rfl
theorem dX3_init_4 : decode cX3_init 4 = .ok (.aload_n 0, 1) := dOf oX3_init_0 2 rfl
theorem dX3_init_5 : decode cX3_init 5 = .ok (.iconst 3, 1) := dOf oX3_init_0 3 rfl
theorem dX3_init_6 : decode cX3_init 6 = .ok (.newarray .int, 2) := dOf oX3_init_0 4 rfl
theorem dX3_init_8 : decode cX3_init 8 = .ok (.putfield 9, 3) := dOf oX3_init_0 5 rfl
theorem dX3_init_11 : decode cX3_init 11 = .ok (.aload_n 0, 1) := dOf oX3_init_0 6 rfl
theorem dX3_init_12 : decode cX3_init 12 = .ok (.iconst 0, 1) := dOf oX3_init_0 7 rfl
theorem dX3_init_13 : decode cX3_init 13 = .ok (.putfield 15, 3) := dOf oX3_init_0 8 rfl
theorem dX3_init_16 : decode cX3_init 16 = .ok (.return_, 1) := dOf oX3_init_0 9 rfl
def eX3_costOf_0 : List (Nat × Instr × Nat) := [(0, .iload_n 0, 1), (1, .ldc 19, 2), (3, .if_icmp .lt 10, 3), (6, .iconst 2, 1), (7, .iload_n 0, 1), (8, .ldc 19, 2), (10, .idiv, 1), (11, .iadd, 1), (12, .ireturn, 1), (13, .iload_n 0, 1), (14, .iconst 3, 1), (15, .irem, 1), (16, .ifCond .ne 7, 3), (19, .iconst 4, 1), (20, .goto 4, 3), (23, .iconst 5, 1), (24, .ireturn, 1)]
theorem oX3_costOf_0 : okC cX3_costOf eX3_costOf_0 = true := by decide +kernel
theorem dX3_costOf_0 : decode cX3_costOf 0 = .ok (.iload_n 0, 1) := dOf oX3_costOf_0 0 rfl
theorem dX3_costOf_1 : decode cX3_costOf 1 = .ok (.ldc 19, 2) := dOf oX3_costOf_0 1 rfl
theorem dX3_costOf_3 : decode cX3_costOf 3 = .ok (.if_icmp .lt 10, 3) := dOf oX3_costOf_0 2 rfl
theorem dX3_costOf_6 : decode cX3_costOf 6 = .ok (.iconst 2, 1) := dOf oX3_costOf_0 3 rfl
theorem dX3_costOf_7 : decode cX3_costOf 7 = .ok (.iload_n 0, 1) := dOf oX3_costOf_0 4 rfl
theorem dX3_costOf_8 : decode cX3_costOf 8 = .ok (.ldc 19, 2) := dOf oX3_costOf_0 5 rfl
theorem dX3_costOf_10 : decode cX3_costOf 10 = .ok (.idiv, 1) := dOf oX3_costOf_0 6 rfl
theorem dX3_costOf_11 : decode cX3_costOf 11 = .ok (.iadd, 1) := dOf oX3_costOf_0 7 rfl
theorem dX3_costOf_12 : decode cX3_costOf 12 = .ok (.ireturn, 1) := dOf oX3_costOf_0 8 rfl
theorem dX3_costOf_13 : decode cX3_costOf 13 = .ok (.iload_n 0, 1) := dOf oX3_costOf_0 9 rfl
theorem dX3_costOf_14 : decode cX3_costOf 14 = .ok (.iconst 3, 1) := dOf oX3_costOf_0 10 rfl
theorem dX3_costOf_15 : decode cX3_costOf 15 = .ok (.irem, 1) := dOf oX3_costOf_0 11 rfl
theorem dX3_costOf_16 : decode cX3_costOf 16 = .ok (.ifCond .ne 7, 3) := dOf oX3_costOf_0 12 rfl
theorem dX3_costOf_19 : decode cX3_costOf 19 = .ok (.iconst 4, 1) := dOf oX3_costOf_0 13 rfl
theorem dX3_costOf_20 : decode cX3_costOf 20 = .ok (.goto 4, 3) := dOf oX3_costOf_0 14 rfl
theorem dX3_costOf_23 : decode cX3_costOf 23 = .ok (.iconst 5, 1) := dOf oX3_costOf_0 15 rfl
theorem dX3_costOf_24 : decode cX3_costOf 24 = .ok (.ireturn, 1) := dOf oX3_costOf_0 16 rfl
def eX3_clear_0 : List (Nat × Instr × Nat) := [(0, .aload_n 0, 1), (1, .iconst 0, 1), (2, .putfield 15, 3), (5, .return_, 1)]
theorem oX3_clear_0 : okC cX3_clear eX3_clear_0 = true := by decide +kernel
theorem dX3_clear_0 : decode cX3_clear 0 = .ok (.aload_n 0, 1) := dOf oX3_clear_0 0 rfl
theorem dX3_clear_1 : decode cX3_clear 1 = .ok (.iconst 0, 1) := dOf oX3_clear_0 1 rfl
theorem dX3_clear_2 : decode cX3_clear 2 = .ok (.putfield 15, 3) := dOf oX3_clear_0 2 rfl
theorem dX3_clear_5 : decode cX3_clear 5 = .ok (.return_, 1) := dOf oX3_clear_0 3 rfl
def eX3_add_0 : List (Nat × Instr × Nat) := [(0, .aload_n 0, 1), (1, .getfield 15, 3), (4, .iconst 3, 1), (5, .if_icmp .ge 23, 3), (8, .aload_n 0, 1), (9, .getfield 9, 3), (12, .aload_n 0, 1), (13, .getfield 15, 3), (16, .iload_n 1, 1), (17, .iastore, 1), (18, .aload_n 0, 1), (19, .dup, 1), (20, .getfield 15, 3), (23, .iconst 1, 1), (24, .iadd, 1), (25, .putfield 15, 3), (28, .return_, 1)]
theorem oX3_add_0 : okC cX3_add eX3_add_0 = true := by decide +kernel
theorem dX3_add_0 : decode cX3_add 0 = .ok (.aload_n 0, 1) := dOf oX3_add_0 0 rfl
theorem dX3_add_1 : decode cX3_add 1 = .ok (.getfield 15, 3) := dOf oX3_add_0 1 rfl
theorem dX3_add_4 : decode cX3_add 4 = .ok (.iconst 3, 1) := dOf oX3_add_0 2 rfl
theorem dX3_add_5 : decode cX3_add 5 = .ok (.if_icmp .ge 23, 3) := dOf oX3_add_0 3 rfl
theorem dX3_add_8 : decode cX3_add 8 = .ok (.aload_n 0, 1) := dOf oX3_add_0 4 rfl
theorem dX3_add_9 : decode cX3_add 9 = .ok (.getfield 9, 3) := dOf oX3_add_0 5 rfl
theorem dX3_add_12 : decode cX3_add 12 = .ok (.aload_n 0, 1) := dOf oX3_add_0 6 rfl
theorem dX3_add_13 : decode cX3_add 13 = .ok (.getfield 15, 3) := dOf oX3_add_0 7 rfl
theorem dX3_add_16 : decode cX3_add 16 = .ok (.iload_n 1, 1) := dOf oX3_add_0 8 rfl
theorem dX3_add_17 : decode cX3_add 17 = .ok (.iastore, 1) := dOf oX3_add_0 9 rfl
theorem dX3_add_18 : decode cX3_add 18 = .ok (.aload_n 0, 1) := dOf oX3_add_0 10 rfl
theorem dX3_add_19 : decode cX3_add 19 = .ok (.dup, 1) := dOf oX3_add_0 11 rfl
theorem dX3_add_20 : decode cX3_add 20 = .ok (.getfield 15, 3) := dOf oX3_add_0 12 rfl
theorem dX3_add_23 : decode cX3_add 23 = .ok (.iconst 1, 1) := dOf oX3_add_0 13 rfl
theorem dX3_add_24 : decode cX3_add 24 = .ok (.iadd, 1) := dOf oX3_add_0 14 rfl
theorem dX3_add_25 : decode cX3_add 25 = .ok (.putfield 15, 3) := dOf oX3_add_0 15 rfl
theorem dX3_add_28 : decode cX3_add 28 = .ok (.return_, 1) := dOf oX3_add_0 16 rfl
def eX3_copyOf_0 : List (Nat × Instr × Nat) := [(0, .aload_n 0, 1), (1, .invokevirtual 20, 3), (4, .iconst 0, 1), (5, .istore_n 2, 1), (6, .iload_n 2, 1), (7, .aload_n 1, 1), (8, .getfield 15, 3), (11, .if_icmp .ge 19, 3), (14, .aload_n 0, 1), (15, .aload_n 1, 1), (16, .getfield 9, 3), (19, .iload_n 2, 1), (20, .iaload, 1), (21, .invokevirtual 23, 3), (24, .iinc 2 1, 3), (27, .goto (-21), 3), (30, .return_, 1)]
theorem oX3_copyOf_0 : okC cX3_copyOf eX3_copyOf_0 = true := by decide +kernel
theorem dX3_copyOf_0 : decode cX3_copyOf 0 = .ok (.aload_n 0, 1) := dOf oX3_copyOf_0 0 rfl
theorem dX3_copyOf_1 : decode cX3_copyOf 1 = .ok (.invokevirtual 20, 3) := dOf oX3_copyOf_0 1 rfl
theorem dX3_copyOf_4 : decode cX3_copyOf 4 = .ok (.iconst 0, 1) := dOf oX3_copyOf_0 2 rfl
theorem dX3_copyOf_5 : decode cX3_copyOf 5 = .ok (.istore_n 2, 1) := dOf oX3_copyOf_0 3 rfl
theorem dX3_copyOf_6 : decode cX3_copyOf 6 = .ok (.iload_n 2, 1) := dOf oX3_copyOf_0 4 rfl
theorem dX3_copyOf_7 : decode cX3_copyOf 7 = .ok (.aload_n 1, 1) := dOf oX3_copyOf_0 5 rfl
theorem dX3_copyOf_8 : decode cX3_copyOf 8 = .ok (.getfield 15, 3) := dOf oX3_copyOf_0 6 rfl
theorem dX3_copyOf_11 : decode cX3_copyOf 11 = .ok (.if_icmp .ge 19, 3) := dOf oX3_copyOf_0 7 rfl
theorem dX3_copyOf_14 : decode cX3_copyOf 14 = .ok (.aload_n 0, 1) := dOf oX3_copyOf_0 8 rfl
theorem dX3_copyOf_15 : decode cX3_copyOf 15 = .ok (.aload_n 1, 1) := dOf oX3_copyOf_0 9 rfl
theorem dX3_copyOf_16 : decode cX3_copyOf 16 = .ok (.getfield 9, 3) := dOf oX3_copyOf_0 10 rfl
theorem dX3_copyOf_19 : decode cX3_copyOf 19 = .ok (.iload_n 2, 1) := dOf oX3_copyOf_0 11 rfl
theorem dX3_copyOf_20 : decode cX3_copyOf 20 = .ok (.iaload, 1) := dOf oX3_copyOf_0 12 rfl
theorem dX3_copyOf_21 : decode cX3_copyOf 21 = .ok (.invokevirtual 23, 3) := dOf oX3_copyOf_0 13 rfl
theorem dX3_copyOf_24 : decode cX3_copyOf 24 = .ok (.iinc 2 1, 3) := dOf oX3_copyOf_0 14 rfl
theorem dX3_copyOf_27 : decode cX3_copyOf 27 = .ok (.goto (-21), 3) := dOf oX3_copyOf_0 15 rfl
theorem dX3_copyOf_30 : decode cX3_copyOf 30 = .ok (.return_, 1) := dOf oX3_copyOf_0 16 rfl
def eX3_endsWithCut_0 : List (Nat × Instr × Nat) := [(0, .aload_n 0, 1), (1, .getfield 15, 3), (4, .ifCond .le 23, 3), (7, .aload_n 0, 1), (8, .getfield 9, 3), (11, .aload_n 0, 1), (12, .getfield 15, 3), (15, .iconst 1, 1), (16, .isub, 1), (17, .iaload, 1), (18, .ldc 19, 2), (20, .if_icmp .ge 7, 3), (23, .iconst 1, 1), (24, .goto 4, 3), (27, .iconst 0, 1), (28, .ireturn, 1)]
theorem oX3_endsWithCut_0 : okC cX3_endsWithCut eX3_endsWithCut_0 = true := by decide +kernel
theorem dX3_endsWithCut_0 : decode cX3_endsWithCut 0 = .ok (.aload_n 0, 1) := dOf oX3_endsWithCut_0 0 rfl
theorem dX3_endsWithCut_1 : decode cX3_endsWithCut 1 = .ok (.getfield 15, 3) := dOf oX3_endsWithCut_0 1 rfl
theorem dX3_endsWithCut_4 : decode cX3_endsWithCut 4 = .ok (.ifCond .le 23, 3) := dOf oX3_endsWithCut_0 2 rfl
theorem dX3_endsWithCut_7 : decode cX3_endsWithCut 7 = .ok (.aload_n 0, 1) := dOf oX3_endsWithCut_0 3 rfl
theorem dX3_endsWithCut_8 : decode cX3_endsWithCut 8 = .ok (.getfield 9, 3) := dOf oX3_endsWithCut_0 4 rfl
theorem dX3_endsWithCut_11 : decode cX3_endsWithCut 11 = .ok (.aload_n 0, 1) := dOf oX3_endsWithCut_0 5 rfl
theorem dX3_endsWithCut_12 : decode cX3_endsWithCut 12 = .ok (.getfield 15, 3) := dOf oX3_endsWithCut_0 6 rfl
theorem dX3_endsWithCut_15 : decode cX3_endsWithCut 15 = .ok (.iconst 1, 1) := dOf oX3_endsWithCut_0 7 rfl
theorem dX3_endsWithCut_16 : decode cX3_endsWithCut 16 = .ok (.isub, 1) := dOf oX3_endsWithCut_0 8 rfl
theorem dX3_endsWithCut_17 : decode cX3_endsWithCut 17 = .ok (.iaload, 1) := dOf oX3_endsWithCut_0 9 rfl
theorem dX3_endsWithCut_18 : decode cX3_endsWithCut 18 = .ok (.ldc 19, 2) := dOf oX3_endsWithCut_0 10 rfl
theorem dX3_endsWithCut_20 : decode cX3_endsWithCut 20 = .ok (.if_icmp .ge 7, 3) := dOf oX3_endsWithCut_0 11 rfl
theorem dX3_endsWithCut_23 : decode cX3_endsWithCut 23 = .ok (.iconst 1, 1) := dOf oX3_endsWithCut_0 12 rfl
theorem dX3_endsWithCut_24 : decode cX3_endsWithCut 24 = .ok (.goto 4, 3) := dOf oX3_endsWithCut_0 13 rfl
theorem dX3_endsWithCut_27 : decode cX3_endsWithCut 27 = .ok (.iconst 0, 1) := dOf oX3_endsWithCut_0 14 rfl
theorem dX3_endsWithCut_28 : decode cX3_endsWithCut 28 = .ok (.ireturn, 1) := dOf oX3_endsWithCut_0 15 rfl
def eX3_pieceCount_0 : List (Nat × Instr × Nat) := [(0, .aload_n 0, 1), (1, .getfield 15, 3), (4, .ireturn, 1)]
theorem oX3_pieceCount_0 : okC cX3_pieceCount eX3_pieceCount_0 = true := by decide +kernel
theorem dX3_pieceCount_0 : decode cX3_pieceCount 0 = .ok (.aload_n 0, 1) := dOf oX3_pieceCount_0 0 rfl
theorem dX3_pieceCount_1 : decode cX3_pieceCount 1 = .ok (.getfield 15, 3) := dOf oX3_pieceCount_0 1 rfl
theorem dX3_pieceCount_4 : decode cX3_pieceCount 4 = .ok (.ireturn, 1) := dOf oX3_pieceCount_0 2 rfl
def eX3_told_0 : List (Nat × Instr × Nat) := [(0, .iload_n 1, 1), (1, .ifCond .ne 35, 3), (4, .iconst 0, 1), (5, .istore_n 2, 1), (6, .iconst 0, 1), (7, .istore_n 3, 1), (8, .iload_n 3, 1), (9, .aload_n 0, 1), (10, .getfield 15, 3), (13, .if_icmp .ge 21, 3), (16, .iload_n 2, 1), (17, .aload_n 0, 1), (18, .getfield 9, 3), (21, .iload_n 3, 1), (22, .iaload, 1), (23, .invokestatic 27, 3), (26, .iadd, 1), (27, .istore_n 2, 1), (28, .iinc 3 1, 3), (31, .goto (-23), 3), (34, .iload_n 2, 1), (35, .ireturn, 1), (36, .iload_n 1, 1), (37, .iconst 1, 1), (38, .if_icmp .ne 8, 3), (41, .aload_n 0, 1), (42, .getfield 15, 3), (45, .ireturn, 1), (46, .iload_n 1, 1), (47, .iconst 2, 1), (48, .if_icmp .lt 24, 3), (51, .iload_n 1, 1), (52, .iconst 2, 1), (53, .aload_n 0, 1), (54, .getfield 15, 3), (57, .iadd, 1), (58, .if_icmp .ge 14, 3), (61, .aload_n 0, 1), (62, .getfield 9, 3), (65, .iload_n 1, 1), (66, .iconst 2, 1), (67, .isub, 1), (68, .iaload, 1), (69, .goto 4, 3), (72, .iconst (-1), 1), (73, .ireturn, 1)]
theorem oX3_told_0 : okC cX3_told eX3_told_0 = true := by decide +kernel
theorem dX3_told_0 : decode cX3_told 0 = .ok (.iload_n 1, 1) := dOf oX3_told_0 0 rfl
theorem dX3_told_1 : decode cX3_told 1 = .ok (.ifCond .ne 35, 3) := dOf oX3_told_0 1 rfl
theorem dX3_told_4 : decode cX3_told 4 = .ok (.iconst 0, 1) := dOf oX3_told_0 2 rfl
theorem dX3_told_5 : decode cX3_told 5 = .ok (.istore_n 2, 1) := dOf oX3_told_0 3 rfl
theorem dX3_told_6 : decode cX3_told 6 = .ok (.iconst 0, 1) := dOf oX3_told_0 4 rfl
theorem dX3_told_7 : decode cX3_told 7 = .ok (.istore_n 3, 1) := dOf oX3_told_0 5 rfl
theorem dX3_told_8 : decode cX3_told 8 = .ok (.iload_n 3, 1) := dOf oX3_told_0 6 rfl
theorem dX3_told_9 : decode cX3_told 9 = .ok (.aload_n 0, 1) := dOf oX3_told_0 7 rfl
theorem dX3_told_10 : decode cX3_told 10 = .ok (.getfield 15, 3) := dOf oX3_told_0 8 rfl
theorem dX3_told_13 : decode cX3_told 13 = .ok (.if_icmp .ge 21, 3) := dOf oX3_told_0 9 rfl
theorem dX3_told_16 : decode cX3_told 16 = .ok (.iload_n 2, 1) := dOf oX3_told_0 10 rfl
theorem dX3_told_17 : decode cX3_told 17 = .ok (.aload_n 0, 1) := dOf oX3_told_0 11 rfl
theorem dX3_told_18 : decode cX3_told 18 = .ok (.getfield 9, 3) := dOf oX3_told_0 12 rfl
theorem dX3_told_21 : decode cX3_told 21 = .ok (.iload_n 3, 1) := dOf oX3_told_0 13 rfl
theorem dX3_told_22 : decode cX3_told 22 = .ok (.iaload, 1) := dOf oX3_told_0 14 rfl
theorem dX3_told_23 : decode cX3_told 23 = .ok (.invokestatic 27, 3) := dOf oX3_told_0 15 rfl
theorem dX3_told_26 : decode cX3_told 26 = .ok (.iadd, 1) := dOf oX3_told_0 16 rfl
theorem dX3_told_27 : decode cX3_told 27 = .ok (.istore_n 2, 1) := dOf oX3_told_0 17 rfl
theorem dX3_told_28 : decode cX3_told 28 = .ok (.iinc 3 1, 3) := dOf oX3_told_0 18 rfl
theorem dX3_told_31 : decode cX3_told 31 = .ok (.goto (-23), 3) := dOf oX3_told_0 19 rfl
theorem dX3_told_34 : decode cX3_told 34 = .ok (.iload_n 2, 1) := dOf oX3_told_0 20 rfl
theorem dX3_told_35 : decode cX3_told 35 = .ok (.ireturn, 1) := dOf oX3_told_0 21 rfl
theorem dX3_told_36 : decode cX3_told 36 = .ok (.iload_n 1, 1) := dOf oX3_told_0 22 rfl
theorem dX3_told_37 : decode cX3_told 37 = .ok (.iconst 1, 1) := dOf oX3_told_0 23 rfl
theorem dX3_told_38 : decode cX3_told 38 = .ok (.if_icmp .ne 8, 3) := dOf oX3_told_0 24 rfl
theorem dX3_told_41 : decode cX3_told 41 = .ok (.aload_n 0, 1) := dOf oX3_told_0 25 rfl
theorem dX3_told_42 : decode cX3_told 42 = .ok (.getfield 15, 3) := dOf oX3_told_0 26 rfl
theorem dX3_told_45 : decode cX3_told 45 = .ok (.ireturn, 1) := dOf oX3_told_0 27 rfl
theorem dX3_told_46 : decode cX3_told 46 = .ok (.iload_n 1, 1) := dOf oX3_told_0 28 rfl
theorem dX3_told_47 : decode cX3_told 47 = .ok (.iconst 2, 1) := dOf oX3_told_0 29 rfl
theorem dX3_told_48 : decode cX3_told 48 = .ok (.if_icmp .lt 24, 3) := dOf oX3_told_0 30 rfl
theorem dX3_told_51 : decode cX3_told 51 = .ok (.iload_n 1, 1) := dOf oX3_told_0 31 rfl
theorem dX3_told_52 : decode cX3_told 52 = .ok (.iconst 2, 1) := dOf oX3_told_0 32 rfl
theorem dX3_told_53 : decode cX3_told 53 = .ok (.aload_n 0, 1) := dOf oX3_told_0 33 rfl
theorem dX3_told_54 : decode cX3_told 54 = .ok (.getfield 15, 3) := dOf oX3_told_0 34 rfl
theorem dX3_told_57 : decode cX3_told 57 = .ok (.iadd, 1) := dOf oX3_told_0 35 rfl
theorem dX3_told_58 : decode cX3_told 58 = .ok (.if_icmp .ge 14, 3) := dOf oX3_told_0 36 rfl
theorem dX3_told_61 : decode cX3_told 61 = .ok (.aload_n 0, 1) := dOf oX3_told_0 37 rfl
theorem dX3_told_62 : decode cX3_told 62 = .ok (.getfield 9, 3) := dOf oX3_told_0 38 rfl
theorem dX3_told_65 : decode cX3_told 65 = .ok (.iload_n 1, 1) := dOf oX3_told_0 39 rfl
theorem dX3_told_66 : decode cX3_told 66 = .ok (.iconst 2, 1) := dOf oX3_told_0 40 rfl
theorem dX3_told_67 : decode cX3_told 67 = .ok (.isub, 1) := dOf oX3_told_0 41 rfl
theorem dX3_told_68 : decode cX3_told 68 = .ok (.iaload, 1) := dOf oX3_told_0 42 rfl
theorem dX3_told_69 : decode cX3_told 69 = .ok (.goto 4, 3) := dOf oX3_told_0 43 rfl
theorem dX3_told_72 : decode cX3_told 72 = .ok (.iconst (-1), 1) := dOf oX3_told_0 44 rfl
theorem dX3_told_73 : decode cX3_told 73 = .ok (.ireturn, 1) := dOf oX3_told_0 45 rfl
def eX3_makeOf_0 : List (Nat × Instr × Nat) := [(0, .aload_n 2, 1), (1, .invokevirtual 31, 3), (4, .iconst 0, 1), (5, .istore_n 3, 1), (6, .iload_n 3, 1), (7, .aload_n 0, 1), (8, .getfield 15, 3), (11, .if_icmp .ge 53, 3), (14, .aload_n 0, 1), (15, .getfield 9, 3), (18, .iload_n 3, 1), (19, .iaload, 1), (20, .ldc 19, 2), (22, .if_icmp .lt 16, 3), (25, .aload_n 0, 1), (26, .getfield 9, 3), (29, .iload_n 3, 1), (30, .iaload, 1), (31, .aload_n 2, 1), (32, .invokestatic 34, 3), (35, .goto 23, 3), (38, .aload_n 1, 1), (39, .aload_n 0, 1), (40, .getfield 9, 3), (43, .iload_n 3, 1), (44, .iaload, 1), (45, .aload_n 2, 1), (46, .invokevirtual 38, 3), (49, .ifCond .ne 9, 3), (52, .aload_n 2, 1), (53, .invokevirtual 31, 3), (56, .iconst 0, 1), (57, .ireturn, 1), (58, .iinc 3 1, 3), (61, .goto (-55), 3), (64, .iconst 1, 1), (65, .ireturn, 1)]
theorem oX3_makeOf_0 : okC cX3_makeOf eX3_makeOf_0 = true := by decide +kernel
theorem dX3_makeOf_0 : decode cX3_makeOf 0 = .ok (.aload_n 2, 1) := dOf oX3_makeOf_0 0 rfl
theorem dX3_makeOf_1 : decode cX3_makeOf 1 = .ok (.invokevirtual 31, 3) := dOf oX3_makeOf_0 1 rfl
theorem dX3_makeOf_4 : decode cX3_makeOf 4 = .ok (.iconst 0, 1) := dOf oX3_makeOf_0 2 rfl
theorem dX3_makeOf_5 : decode cX3_makeOf 5 = .ok (.istore_n 3, 1) := dOf oX3_makeOf_0 3 rfl
theorem dX3_makeOf_6 : decode cX3_makeOf 6 = .ok (.iload_n 3, 1) := dOf oX3_makeOf_0 4 rfl
theorem dX3_makeOf_7 : decode cX3_makeOf 7 = .ok (.aload_n 0, 1) := dOf oX3_makeOf_0 5 rfl
theorem dX3_makeOf_8 : decode cX3_makeOf 8 = .ok (.getfield 15, 3) := dOf oX3_makeOf_0 6 rfl
theorem dX3_makeOf_11 : decode cX3_makeOf 11 = .ok (.if_icmp .ge 53, 3) := dOf oX3_makeOf_0 7 rfl
theorem dX3_makeOf_14 : decode cX3_makeOf 14 = .ok (.aload_n 0, 1) := dOf oX3_makeOf_0 8 rfl
theorem dX3_makeOf_15 : decode cX3_makeOf 15 = .ok (.getfield 9, 3) := dOf oX3_makeOf_0 9 rfl
theorem dX3_makeOf_18 : decode cX3_makeOf 18 = .ok (.iload_n 3, 1) := dOf oX3_makeOf_0 10 rfl
theorem dX3_makeOf_19 : decode cX3_makeOf 19 = .ok (.iaload, 1) := dOf oX3_makeOf_0 11 rfl
theorem dX3_makeOf_20 : decode cX3_makeOf 20 = .ok (.ldc 19, 2) := dOf oX3_makeOf_0 12 rfl
theorem dX3_makeOf_22 : decode cX3_makeOf 22 = .ok (.if_icmp .lt 16, 3) := dOf oX3_makeOf_0 13 rfl
theorem dX3_makeOf_25 : decode cX3_makeOf 25 = .ok (.aload_n 0, 1) := dOf oX3_makeOf_0 14 rfl
theorem dX3_makeOf_26 : decode cX3_makeOf 26 = .ok (.getfield 9, 3) := dOf oX3_makeOf_0 15 rfl
theorem dX3_makeOf_29 : decode cX3_makeOf 29 = .ok (.iload_n 3, 1) := dOf oX3_makeOf_0 16 rfl
theorem dX3_makeOf_30 : decode cX3_makeOf 30 = .ok (.iaload, 1) := dOf oX3_makeOf_0 17 rfl
theorem dX3_makeOf_31 : decode cX3_makeOf 31 = .ok (.aload_n 2, 1) := dOf oX3_makeOf_0 18 rfl
theorem dX3_makeOf_32 : decode cX3_makeOf 32 = .ok (.invokestatic 34, 3) := dOf oX3_makeOf_0 19 rfl
theorem dX3_makeOf_35 : decode cX3_makeOf 35 = .ok (.goto 23, 3) := dOf oX3_makeOf_0 20 rfl
theorem dX3_makeOf_38 : decode cX3_makeOf 38 = .ok (.aload_n 1, 1) := dOf oX3_makeOf_0 21 rfl
theorem dX3_makeOf_39 : decode cX3_makeOf 39 = .ok (.aload_n 0, 1) := dOf oX3_makeOf_0 22 rfl
theorem dX3_makeOf_40 : decode cX3_makeOf 40 = .ok (.getfield 9, 3) := dOf oX3_makeOf_0 23 rfl
theorem dX3_makeOf_43 : decode cX3_makeOf 43 = .ok (.iload_n 3, 1) := dOf oX3_makeOf_0 24 rfl
theorem dX3_makeOf_44 : decode cX3_makeOf 44 = .ok (.iaload, 1) := dOf oX3_makeOf_0 25 rfl
theorem dX3_makeOf_45 : decode cX3_makeOf 45 = .ok (.aload_n 2, 1) := dOf oX3_makeOf_0 26 rfl
theorem dX3_makeOf_46 : decode cX3_makeOf 46 = .ok (.invokevirtual 38, 3) := dOf oX3_makeOf_0 27 rfl
theorem dX3_makeOf_49 : decode cX3_makeOf 49 = .ok (.ifCond .ne 9, 3) := dOf oX3_makeOf_0 28 rfl
theorem dX3_makeOf_52 : decode cX3_makeOf 52 = .ok (.aload_n 2, 1) := dOf oX3_makeOf_0 29 rfl
theorem dX3_makeOf_53 : decode cX3_makeOf 53 = .ok (.invokevirtual 31, 3) := dOf oX3_makeOf_0 30 rfl
theorem dX3_makeOf_56 : decode cX3_makeOf 56 = .ok (.iconst 0, 1) := dOf oX3_makeOf_0 31 rfl
theorem dX3_makeOf_57 : decode cX3_makeOf 57 = .ok (.ireturn, 1) := dOf oX3_makeOf_0 32 rfl
theorem dX3_makeOf_58 : decode cX3_makeOf 58 = .ok (.iinc 3 1, 3) := dOf oX3_makeOf_0 33 rfl
theorem dX3_makeOf_61 : decode cX3_makeOf 61 = .ok (.goto (-55), 3) := dOf oX3_makeOf_0 34 rfl
theorem dX3_makeOf_64 : decode cX3_makeOf 64 = .ok (.iconst 1, 1) := dOf oX3_makeOf_0 35 rfl
theorem dX3_makeOf_65 : decode cX3_makeOf 65 = .ok (.ireturn, 1) := dOf oX3_makeOf_0 36 rfl
def eX3_writeTyped_0 : List (Nat × Instr × Nat) := [(0, .iload_n 0, 1), (1, .ldc 19, 2), (3, .idiv, 1), (4, .iconst 1, 1), (5, .isub, 1), (6, .istore_n 2, 1), (7, .iload_n 2, 1), (8, .ifCond .lt 23, 3), (11, .aload_n 1, 1), (12, .iload_n 0, 1), (13, .bipush 8, 2), (15, .iload_n 2, 1), (16, .imul, 1), (17, .ishr, 1), (18, .sipush 255, 3), (21, .iand, 1), (22, .invokevirtual 44, 3), (25, .iinc 2 (-1), 3), (28, .goto (-21), 3), (31, .return_, 1)]
theorem oX3_writeTyped_0 : okC cX3_writeTyped eX3_writeTyped_0 = true := by decide +kernel
theorem dX3_writeTyped_0 : decode cX3_writeTyped 0 = .ok (.iload_n 0, 1) := dOf oX3_writeTyped_0 0 rfl
theorem dX3_writeTyped_1 : decode cX3_writeTyped 1 = .ok (.ldc 19, 2) := dOf oX3_writeTyped_0 1 rfl
theorem dX3_writeTyped_3 : decode cX3_writeTyped 3 = .ok (.idiv, 1) := dOf oX3_writeTyped_0 2 rfl
theorem dX3_writeTyped_4 : decode cX3_writeTyped 4 = .ok (.iconst 1, 1) := dOf oX3_writeTyped_0 3 rfl
theorem dX3_writeTyped_5 : decode cX3_writeTyped 5 = .ok (.isub, 1) := dOf oX3_writeTyped_0 4 rfl
theorem dX3_writeTyped_6 : decode cX3_writeTyped 6 = .ok (.istore_n 2, 1) := dOf oX3_writeTyped_0 5 rfl
theorem dX3_writeTyped_7 : decode cX3_writeTyped 7 = .ok (.iload_n 2, 1) := dOf oX3_writeTyped_0 6 rfl
theorem dX3_writeTyped_8 : decode cX3_writeTyped 8 = .ok (.ifCond .lt 23, 3) := dOf oX3_writeTyped_0 7 rfl
theorem dX3_writeTyped_11 : decode cX3_writeTyped 11 = .ok (.aload_n 1, 1) := dOf oX3_writeTyped_0 8 rfl
theorem dX3_writeTyped_12 : decode cX3_writeTyped 12 = .ok (.iload_n 0, 1) := dOf oX3_writeTyped_0 9 rfl
theorem dX3_writeTyped_13 : decode cX3_writeTyped 13 = .ok (.bipush 8, 2) := dOf oX3_writeTyped_0 10 rfl
theorem dX3_writeTyped_15 : decode cX3_writeTyped 15 = .ok (.iload_n 2, 1) := dOf oX3_writeTyped_0 11 rfl
theorem dX3_writeTyped_16 : decode cX3_writeTyped 16 = .ok (.imul, 1) := dOf oX3_writeTyped_0 12 rfl
theorem dX3_writeTyped_17 : decode cX3_writeTyped 17 = .ok (.ishr, 1) := dOf oX3_writeTyped_0 13 rfl
theorem dX3_writeTyped_18 : decode cX3_writeTyped 18 = .ok (.sipush 255, 3) := dOf oX3_writeTyped_0 14 rfl
theorem dX3_writeTyped_21 : decode cX3_writeTyped 21 = .ok (.iand, 1) := dOf oX3_writeTyped_0 15 rfl
theorem dX3_writeTyped_22 : decode cX3_writeTyped 22 = .ok (.invokevirtual 44, 3) := dOf oX3_writeTyped_0 16 rfl
theorem dX3_writeTyped_25 : decode cX3_writeTyped 25 = .ok (.iinc 2 (-1), 3) := dOf oX3_writeTyped_0 17 rfl
theorem dX3_writeTyped_28 : decode cX3_writeTyped 28 = .ok (.goto (-21), 3) := dOf oX3_writeTyped_0 18 rfl
theorem dX3_writeTyped_31 : decode cX3_writeTyped 31 = .ok (.return_, 1) := dOf oX3_writeTyped_0 19 rfl
def eX4_init_0 : List (Nat × Instr × Nat) := [(0, .aload_n 0, 1), (1, .invokespecial 3, 3), (4, .aload_n 0, 1), (5, .iload_n 1, 1), (6, .newarray .byte, 2), (8, .putfield 9, 3), (11, .aload_n 0, 1), (12, .iconst 0, 1), (13, .putfield 15, 3), (16, .return_, 1)]
theorem oX4_init_0 : okC cX4_init eX4_init_0 = true := by decide +kernel
theorem dX4_init_0 : decode cX4_init 0 = .ok (.aload_n 0, 1) := dOf oX4_init_0 0 rfl
theorem dX4_init_1 : decode cX4_init 1 = .ok (.invokespecial 3, 3) := dOf oX4_init_0 1 rfl
theorem dX4_init_4 : decode cX4_init 4 = .ok (.aload_n 0, 1) := dOf oX4_init_0 2 rfl
theorem dX4_init_5 : decode cX4_init 5 = .ok (.iload_n 1, 1) := dOf oX4_init_0 3 rfl
theorem dX4_init_6 : decode cX4_init 6 = .ok (.newarray .byte, 2) := dOf oX4_init_0 4 rfl
theorem dX4_init_8 : decode cX4_init 8 = .ok (.putfield 9, 3) := dOf oX4_init_0 5 rfl
theorem dX4_init_11 : decode cX4_init 11 = .ok (.aload_n 0, 1) := dOf oX4_init_0 6 rfl
theorem dX4_init_12 : decode cX4_init 12 = .ok (.iconst 0, 1) := dOf oX4_init_0 7 rfl
theorem dX4_init_13 : decode cX4_init 13 = .ok (.putfield 15, 3) := dOf oX4_init_0 8 rfl
theorem dX4_init_16 : decode cX4_init 16 = .ok (.return_, 1) := dOf oX4_init_0 9 rfl
def eX4_clear_0 : List (Nat × Instr × Nat) := [(0, .aload_n 0, 1), (1, .iconst 0, 1), (2, .putfield 15, 3), (5, .return_, 1)]
theorem oX4_clear_0 : okC cX4_clear eX4_clear_0 = true := by decide +kernel
theorem dX4_clear_0 : decode cX4_clear 0 = .ok (.aload_n 0, 1) := dOf oX4_clear_0 0 rfl
theorem dX4_clear_1 : decode cX4_clear 1 = .ok (.iconst 0, 1) := dOf oX4_clear_0 1 rfl
theorem dX4_clear_2 : decode cX4_clear 2 = .ok (.putfield 15, 3) := dOf oX4_clear_0 2 rfl
theorem dX4_clear_5 : decode cX4_clear 5 = .ok (.return_, 1) := dOf oX4_clear_0 3 rfl
def eX4_add_0 : List (Nat × Instr × Nat) := [(0, .aload_n 0, 1), (1, .getfield 15, 3), (4, .aload_n 0, 1), (5, .getfield 9, 3), (8, .arraylength, 1), (9, .if_icmp .ge 24, 3), (12, .aload_n 0, 1), (13, .getfield 9, 3), (16, .aload_n 0, 1), (17, .getfield 15, 3), (20, .iload_n 1, 1), (21, .i2b, 1), (22, .bastore, 1), (23, .aload_n 0, 1), (24, .dup, 1), (25, .getfield 15, 3), (28, .iconst 1, 1), (29, .iadd, 1), (30, .putfield 15, 3), (33, .return_, 1)]
theorem oX4_add_0 : okC cX4_add eX4_add_0 = true := by decide +kernel
theorem dX4_add_0 : decode cX4_add 0 = .ok (.aload_n 0, 1) := dOf oX4_add_0 0 rfl
theorem dX4_add_1 : decode cX4_add 1 = .ok (.getfield 15, 3) := dOf oX4_add_0 1 rfl
theorem dX4_add_4 : decode cX4_add 4 = .ok (.aload_n 0, 1) := dOf oX4_add_0 2 rfl
theorem dX4_add_5 : decode cX4_add 5 = .ok (.getfield 9, 3) := dOf oX4_add_0 3 rfl
theorem dX4_add_8 : decode cX4_add 8 = .ok (.arraylength, 1) := dOf oX4_add_0 4 rfl
theorem dX4_add_9 : decode cX4_add 9 = .ok (.if_icmp .ge 24, 3) := dOf oX4_add_0 5 rfl
theorem dX4_add_12 : decode cX4_add 12 = .ok (.aload_n 0, 1) := dOf oX4_add_0 6 rfl
theorem dX4_add_13 : decode cX4_add 13 = .ok (.getfield 9, 3) := dOf oX4_add_0 7 rfl
theorem dX4_add_16 : decode cX4_add 16 = .ok (.aload_n 0, 1) := dOf oX4_add_0 8 rfl
theorem dX4_add_17 : decode cX4_add 17 = .ok (.getfield 15, 3) := dOf oX4_add_0 9 rfl
theorem dX4_add_20 : decode cX4_add 20 = .ok (.iload_n 1, 1) := dOf oX4_add_0 10 rfl
theorem dX4_add_21 : decode cX4_add 21 = .ok (.i2b, 1) := dOf oX4_add_0 11 rfl
theorem dX4_add_22 : decode cX4_add 22 = .ok (.bastore, 1) := dOf oX4_add_0 12 rfl
theorem dX4_add_23 : decode cX4_add 23 = .ok (.aload_n 0, 1) := dOf oX4_add_0 13 rfl
theorem dX4_add_24 : decode cX4_add 24 = .ok (.dup, 1) := dOf oX4_add_0 14 rfl
theorem dX4_add_25 : decode cX4_add 25 = .ok (.getfield 15, 3) := dOf oX4_add_0 15 rfl
theorem dX4_add_28 : decode cX4_add 28 = .ok (.iconst 1, 1) := dOf oX4_add_0 16 rfl
theorem dX4_add_29 : decode cX4_add 29 = .ok (.iadd, 1) := dOf oX4_add_0 17 rfl
theorem dX4_add_30 : decode cX4_add 30 = .ok (.putfield 15, 3) := dOf oX4_add_0 18 rfl
theorem dX4_add_33 : decode cX4_add 33 = .ok (.return_, 1) := dOf oX4_add_0 19 rfl
def eX4_told_0 : List (Nat × Instr × Nat) := [(0, .iload_n 1, 1), (1, .iconst (-1), 1), (2, .if_icmp .ne 8, 3), (5, .aload_n 0, 1), (6, .getfield 15, 3), (9, .ireturn, 1), (10, .iload_n 1, 1), (11, .ifCond .lt 20, 3), (14, .iload_n 1, 1), (15, .aload_n 0, 1), (16, .getfield 15, 3), (19, .if_icmp .ge 12, 3), (22, .aload_n 0, 1), (23, .getfield 9, 3), (26, .iload_n 1, 1), (27, .baload, 1), (28, .goto 4, 3), (31, .iconst (-1), 1), (32, .ireturn, 1)]
theorem oX4_told_0 : okC cX4_told eX4_told_0 = true := by decide +kernel
theorem dX4_told_0 : decode cX4_told 0 = .ok (.iload_n 1, 1) := dOf oX4_told_0 0 rfl
theorem dX4_told_1 : decode cX4_told 1 = .ok (.iconst (-1), 1) := dOf oX4_told_0 1 rfl
theorem dX4_told_2 : decode cX4_told 2 = .ok (.if_icmp .ne 8, 3) := dOf oX4_told_0 2 rfl
theorem dX4_told_5 : decode cX4_told 5 = .ok (.aload_n 0, 1) := dOf oX4_told_0 3 rfl
theorem dX4_told_6 : decode cX4_told 6 = .ok (.getfield 15, 3) := dOf oX4_told_0 4 rfl
theorem dX4_told_9 : decode cX4_told 9 = .ok (.ireturn, 1) := dOf oX4_told_0 5 rfl
theorem dX4_told_10 : decode cX4_told 10 = .ok (.iload_n 1, 1) := dOf oX4_told_0 6 rfl
theorem dX4_told_11 : decode cX4_told 11 = .ok (.ifCond .lt 20, 3) := dOf oX4_told_0 7 rfl
theorem dX4_told_14 : decode cX4_told 14 = .ok (.iload_n 1, 1) := dOf oX4_told_0 8 rfl
theorem dX4_told_15 : decode cX4_told 15 = .ok (.aload_n 0, 1) := dOf oX4_told_0 9 rfl
theorem dX4_told_16 : decode cX4_told 16 = .ok (.getfield 15, 3) := dOf oX4_told_0 10 rfl
theorem dX4_told_19 : decode cX4_told 19 = .ok (.if_icmp .ge 12, 3) := dOf oX4_told_0 11 rfl
theorem dX4_told_22 : decode cX4_told 22 = .ok (.aload_n 0, 1) := dOf oX4_told_0 12 rfl
theorem dX4_told_23 : decode cX4_told 23 = .ok (.getfield 9, 3) := dOf oX4_told_0 13 rfl
theorem dX4_told_26 : decode cX4_told 26 = .ok (.iload_n 1, 1) := dOf oX4_told_0 14 rfl
theorem dX4_told_27 : decode cX4_told 27 = .ok (.baload, 1) := dOf oX4_told_0 15 rfl
theorem dX4_told_28 : decode cX4_told 28 = .ok (.goto 4, 3) := dOf oX4_told_0 16 rfl
theorem dX4_told_31 : decode cX4_told 31 = .ok (.iconst (-1), 1) := dOf oX4_told_0 17 rfl
theorem dX4_told_32 : decode cX4_told 32 = .ok (.ireturn, 1) := dOf oX4_told_0 18 rfl
def eX4_copyOf_0 : List (Nat × Instr × Nat) := [(0, .aload_n 0, 1), (1, .invokevirtual 19, 3), (4, .iconst 0, 1), (5, .istore_n 2, 1), (6, .iload_n 2, 1), (7, .aload_n 1, 1), (8, .getfield 15, 3), (11, .if_icmp .ge 19, 3), (14, .aload_n 0, 1), (15, .aload_n 1, 1), (16, .getfield 9, 3), (19, .iload_n 2, 1), (20, .baload, 1), (21, .invokevirtual 22, 3), (24, .iinc 2 1, 3), (27, .goto (-21), 3), (30, .return_, 1)]
theorem oX4_copyOf_0 : okC cX4_copyOf eX4_copyOf_0 = true := by decide +kernel
theorem dX4_copyOf_0 : decode cX4_copyOf 0 = .ok (.aload_n 0, 1) := dOf oX4_copyOf_0 0 rfl
theorem dX4_copyOf_1 : decode cX4_copyOf 1 = .ok (.invokevirtual 19, 3) := dOf oX4_copyOf_0 1 rfl
theorem dX4_copyOf_4 : decode cX4_copyOf 4 = .ok (.iconst 0, 1) := dOf oX4_copyOf_0 2 rfl
theorem dX4_copyOf_5 : decode cX4_copyOf 5 = .ok (.istore_n 2, 1) := dOf oX4_copyOf_0 3 rfl
theorem dX4_copyOf_6 : decode cX4_copyOf 6 = .ok (.iload_n 2, 1) := dOf oX4_copyOf_0 4 rfl
theorem dX4_copyOf_7 : decode cX4_copyOf 7 = .ok (.aload_n 1, 1) := dOf oX4_copyOf_0 5 rfl
theorem dX4_copyOf_8 : decode cX4_copyOf 8 = .ok (.getfield 15, 3) := dOf oX4_copyOf_0 6 rfl
theorem dX4_copyOf_11 : decode cX4_copyOf 11 = .ok (.if_icmp .ge 19, 3) := dOf oX4_copyOf_0 7 rfl
theorem dX4_copyOf_14 : decode cX4_copyOf 14 = .ok (.aload_n 0, 1) := dOf oX4_copyOf_0 8 rfl
theorem dX4_copyOf_15 : decode cX4_copyOf 15 = .ok (.aload_n 1, 1) := dOf oX4_copyOf_0 9 rfl
theorem dX4_copyOf_16 : decode cX4_copyOf 16 = .ok (.getfield 9, 3) := dOf oX4_copyOf_0 10 rfl
theorem dX4_copyOf_19 : decode cX4_copyOf 19 = .ok (.iload_n 2, 1) := dOf oX4_copyOf_0 11 rfl
theorem dX4_copyOf_20 : decode cX4_copyOf 20 = .ok (.baload, 1) := dOf oX4_copyOf_0 12 rfl
theorem dX4_copyOf_21 : decode cX4_copyOf 21 = .ok (.invokevirtual 22, 3) := dOf oX4_copyOf_0 13 rfl
theorem dX4_copyOf_24 : decode cX4_copyOf 24 = .ok (.iinc 2 1, 3) := dOf oX4_copyOf_0 14 rfl
theorem dX4_copyOf_27 : decode cX4_copyOf 27 = .ok (.goto (-21), 3) := dOf oX4_copyOf_0 15 rfl
theorem dX4_copyOf_30 : decode cX4_copyOf 30 = .ok (.return_, 1) := dOf oX4_copyOf_0 16 rfl
def eX4_isLike_0 : List (Nat × Instr × Nat) := [(0, .aload_n 0, 1), (1, .getfield 15, 3), (4, .aload_n 1, 1), (5, .getfield 15, 3), (8, .if_icmp .eq 5, 3), (11, .iconst 0, 1), (12, .ireturn, 1), (13, .iconst 0, 1), (14, .istore_n 2, 1), (15, .iload_n 2, 1), (16, .aload_n 0, 1), (17, .getfield 15, 3), (20, .if_icmp .ge 26, 3), (23, .aload_n 0, 1), (24, .getfield 9, 3), (27, .iload_n 2, 1), (28, .baload, 1), (29, .aload_n 1, 1), (30, .getfield 9, 3), (33, .iload_n 2, 1), (34, .baload, 1), (35, .if_icmp .eq 5, 3), (38, .iconst 0, 1), (39, .ireturn, 1), (40, .iinc 2 1, 3), (43, .goto (-28), 3), (46, .iconst 1, 1), (47, .ireturn, 1)]
theorem oX4_isLike_0 : okC cX4_isLike eX4_isLike_0 = true := by decide +kernel
theorem dX4_isLike_0 : decode cX4_isLike 0 = .ok (.aload_n 0, 1) := dOf oX4_isLike_0 0 rfl
theorem dX4_isLike_1 : decode cX4_isLike 1 = .ok (.getfield 15, 3) := dOf oX4_isLike_0 1 rfl
theorem dX4_isLike_4 : decode cX4_isLike 4 = .ok (.aload_n 1, 1) := dOf oX4_isLike_0 2 rfl
theorem dX4_isLike_5 : decode cX4_isLike 5 = .ok (.getfield 15, 3) := dOf oX4_isLike_0 3 rfl
theorem dX4_isLike_8 : decode cX4_isLike 8 = .ok (.if_icmp .eq 5, 3) := dOf oX4_isLike_0 4 rfl
theorem dX4_isLike_11 : decode cX4_isLike 11 = .ok (.iconst 0, 1) := dOf oX4_isLike_0 5 rfl
theorem dX4_isLike_12 : decode cX4_isLike 12 = .ok (.ireturn, 1) := dOf oX4_isLike_0 6 rfl
theorem dX4_isLike_13 : decode cX4_isLike 13 = .ok (.iconst 0, 1) := dOf oX4_isLike_0 7 rfl
theorem dX4_isLike_14 : decode cX4_isLike 14 = .ok (.istore_n 2, 1) := dOf oX4_isLike_0 8 rfl
theorem dX4_isLike_15 : decode cX4_isLike 15 = .ok (.iload_n 2, 1) := dOf oX4_isLike_0 9 rfl
theorem dX4_isLike_16 : decode cX4_isLike 16 = .ok (.aload_n 0, 1) := dOf oX4_isLike_0 10 rfl
theorem dX4_isLike_17 : decode cX4_isLike 17 = .ok (.getfield 15, 3) := dOf oX4_isLike_0 11 rfl
theorem dX4_isLike_20 : decode cX4_isLike 20 = .ok (.if_icmp .ge 26, 3) := dOf oX4_isLike_0 12 rfl
theorem dX4_isLike_23 : decode cX4_isLike 23 = .ok (.aload_n 0, 1) := dOf oX4_isLike_0 13 rfl
theorem dX4_isLike_24 : decode cX4_isLike 24 = .ok (.getfield 9, 3) := dOf oX4_isLike_0 14 rfl
theorem dX4_isLike_27 : decode cX4_isLike 27 = .ok (.iload_n 2, 1) := dOf oX4_isLike_0 15 rfl
theorem dX4_isLike_28 : decode cX4_isLike 28 = .ok (.baload, 1) := dOf oX4_isLike_0 16 rfl
theorem dX4_isLike_29 : decode cX4_isLike 29 = .ok (.aload_n 1, 1) := dOf oX4_isLike_0 17 rfl
theorem dX4_isLike_30 : decode cX4_isLike 30 = .ok (.getfield 9, 3) := dOf oX4_isLike_0 18 rfl
theorem dX4_isLike_33 : decode cX4_isLike 33 = .ok (.iload_n 2, 1) := dOf oX4_isLike_0 19 rfl
theorem dX4_isLike_34 : decode cX4_isLike 34 = .ok (.baload, 1) := dOf oX4_isLike_0 20 rfl
theorem dX4_isLike_35 : decode cX4_isLike 35 = .ok (.if_icmp .eq 5, 3) := dOf oX4_isLike_0 21 rfl
theorem dX4_isLike_38 : decode cX4_isLike 38 = .ok (.iconst 0, 1) := dOf oX4_isLike_0 22 rfl
theorem dX4_isLike_39 : decode cX4_isLike 39 = .ok (.ireturn, 1) := dOf oX4_isLike_0 23 rfl
theorem dX4_isLike_40 : decode cX4_isLike 40 = .ok (.iinc 2 1, 3) := dOf oX4_isLike_0 24 rfl
theorem dX4_isLike_43 : decode cX4_isLike 43 = .ok (.goto (-28), 3) := dOf oX4_isLike_0 25 rfl
theorem dX4_isLike_46 : decode cX4_isLike 46 = .ok (.iconst 1, 1) := dOf oX4_isLike_0 26 rfl
theorem dX4_isLike_47 : decode cX4_isLike 47 = .ok (.ireturn, 1) := dOf oX4_isLike_0 27 rfl
def eX5_init_0 : List (Nat × Instr × Nat) := [(0, .aload_n 0, 1), (1, .invokespecial 3, 3), (4, .aload_n 0, 1), (5, .bipush 20, 2), (7, .newarray .int, 2), (9, .putfield 9, 3), (12, .aload_n 0, 1), (13, .iconst 0, 1), (14, .putfield 15, 3), (17, .aload_n 0, 1), (18, .iconst (-1), 1), (19, .putfield 19, 3), (22, .return_, 1)]
theorem oX5_init_0 : okC cX5_init eX5_init_0 = true := by decide +kernel
theorem dX5_init_0 : decode cX5_init 0 = .ok (.aload_n 0, 1) := dOf oX5_init_0 0 rfl
theorem dX5_init_1 : decode cX5_init 1 = .ok (.invokespecial 3, 3) := dOf oX5_init_0 1 rfl
theorem dX5_init_4 : decode cX5_init 4 = .ok (.aload_n 0, 1) := dOf oX5_init_0 2 rfl
theorem dX5_init_5 : decode cX5_init 5 = .ok (.bipush 20, 2) := dOf oX5_init_0 3 rfl
theorem dX5_init_7 : decode cX5_init 7 = .ok (.newarray .int, 2) := dOf oX5_init_0 4 rfl
theorem dX5_init_9 : decode cX5_init 9 = .ok (.putfield 9, 3) := dOf oX5_init_0 5 rfl
theorem dX5_init_12 : decode cX5_init 12 = .ok (.aload_n 0, 1) := dOf oX5_init_0 6 rfl
theorem dX5_init_13 : decode cX5_init 13 = .ok (.iconst 0, 1) := dOf oX5_init_0 7 rfl
theorem dX5_init_14 : decode cX5_init 14 = .ok (.putfield 15, 3) := dOf oX5_init_0 8 rfl
theorem dX5_init_17 : decode cX5_init 17 = .ok (.aload_n 0, 1) := dOf oX5_init_0 9 rfl
theorem dX5_init_18 : decode cX5_init 18 = .ok (.iconst (-1), 1) := dOf oX5_init_0 10 rfl
theorem dX5_init_19 : decode cX5_init 19 = .ok (.putfield 19, 3) := dOf oX5_init_0 11 rfl
theorem dX5_init_22 : decode cX5_init 22 = .ok (.return_, 1) := dOf oX5_init_0 12 rfl
def eX5_isThere_0 : List (Nat × Instr × Nat) := [(0, .aload_n 0, 1), (1, .getfield 19, 3), (4, .iconst (-1), 1), (5, .if_icmp .eq 7, 3), (8, .iconst 1, 1), (9, .goto 4, 3), (12, .iconst 0, 1), (13, .ireturn, 1)]
theorem oX5_isThere_0 : okC cX5_isThere eX5_isThere_0 = true := by decide +kernel
theorem dX5_isThere_0 : decode cX5_isThere 0 = .ok (.aload_n 0, 1) := dOf oX5_isThere_0 0 rfl
theorem dX5_isThere_1 : decode cX5_isThere 1 = .ok (.getfield 19, 3) := dOf oX5_isThere_0 1 rfl
theorem dX5_isThere_4 : decode cX5_isThere 4 = .ok (.iconst (-1), 1) := dOf oX5_isThere_0 2 rfl
theorem dX5_isThere_5 : decode cX5_isThere 5 = .ok (.if_icmp .eq 7, 3) := dOf oX5_isThere_0 3 rfl
theorem dX5_isThere_8 : decode cX5_isThere 8 = .ok (.iconst 1, 1) := dOf oX5_isThere_0 4 rfl
theorem dX5_isThere_9 : decode cX5_isThere 9 = .ok (.goto 4, 3) := dOf oX5_isThere_0 5 rfl
theorem dX5_isThere_12 : decode cX5_isThere 12 = .ok (.iconst 0, 1) := dOf oX5_isThere_0 6 rfl
theorem dX5_isThere_13 : decode cX5_isThere 13 = .ok (.ireturn, 1) := dOf oX5_isThere_0 7 rfl
def eX5_renew_0 : List (Nat × Instr × Nat) := [(0, .aload_n 0, 1), (1, .iload_n 1, 1), (2, .putfield 19, 3), (5, .aload_n 0, 1), (6, .iload_n 2, 1), (7, .putfield 15, 3), (10, .aload_n 0, 1), (11, .getfield 9, 3), (14, .iconst 0, 1), (15, .invokestatic 22, 3), (18, .return_, 1)]
theorem oX5_renew_0 : okC cX5_renew eX5_renew_0 = true := by decide +kernel
theorem dX5_renew_0 : decode cX5_renew 0 = .ok (.aload_n 0, 1) := dOf oX5_renew_0 0 rfl
theorem dX5_renew_1 : decode cX5_renew 1 = .ok (.iload_n 1, 1) := dOf oX5_renew_0 1 rfl
theorem dX5_renew_2 : decode cX5_renew 2 = .ok (.putfield 19, 3) := dOf oX5_renew_0 2 rfl
theorem dX5_renew_5 : decode cX5_renew 5 = .ok (.aload_n 0, 1) := dOf oX5_renew_0 3 rfl
theorem dX5_renew_6 : decode cX5_renew 6 = .ok (.iload_n 2, 1) := dOf oX5_renew_0 4 rfl
theorem dX5_renew_7 : decode cX5_renew 7 = .ok (.putfield 15, 3) := dOf oX5_renew_0 5 rfl
theorem dX5_renew_10 : decode cX5_renew 10 = .ok (.aload_n 0, 1) := dOf oX5_renew_0 6 rfl
theorem dX5_renew_11 : decode cX5_renew 11 = .ok (.getfield 9, 3) := dOf oX5_renew_0 7 rfl
theorem dX5_renew_14 : decode cX5_renew 14 = .ok (.iconst 0, 1) := dOf oX5_renew_0 8 rfl
theorem dX5_renew_15 : decode cX5_renew 15 = .ok (.invokestatic 22, 3) := dOf oX5_renew_0 9 rfl
theorem dX5_renew_18 : decode cX5_renew 18 = .ok (.return_, 1) := dOf oX5_renew_0 10 rfl
def eX5_vanish_0 : List (Nat × Instr × Nat) := [(0, .aload_n 0, 1), (1, .iconst (-1), 1), (2, .putfield 19, 3), (5, .aload_n 0, 1), (6, .iconst 0, 1), (7, .putfield 15, 3), (10, .return_, 1)]
theorem oX5_vanish_0 : okC cX5_vanish eX5_vanish_0 = true := by decide +kernel
theorem dX5_vanish_0 : decode cX5_vanish 0 = .ok (.aload_n 0, 1) := dOf oX5_vanish_0 0 rfl
theorem dX5_vanish_1 : decode cX5_vanish 1 = .ok (.iconst (-1), 1) := dOf oX5_vanish_0 1 rfl
theorem dX5_vanish_2 : decode cX5_vanish 2 = .ok (.putfield 19, 3) := dOf oX5_vanish_0 2 rfl
theorem dX5_vanish_5 : decode cX5_vanish 5 = .ok (.aload_n 0, 1) := dOf oX5_vanish_0 3 rfl
theorem dX5_vanish_6 : decode cX5_vanish 6 = .ok (.iconst 0, 1) := dOf oX5_vanish_0 4 rfl
theorem dX5_vanish_7 : decode cX5_vanish 7 = .ok (.putfield 15, 3) := dOf oX5_vanish_0 5 rfl
theorem dX5_vanish_10 : decode cX5_vanish 10 = .ok (.return_, 1) := dOf oX5_vanish_0 6 rfl
def eX5_refusalOf_0 : List (Nat × Instr × Nat) := [(0, .aload_n 0, 1), (1, .getfield 19, 3), (4, .iconst (-1), 1), (5, .if_icmp .ne 6, 3), (8, .bipush (-11), 2), (10, .ireturn, 1), (11, .aload_n 0, 1), (12, .getfield 19, 3), (15, .iload_n 1, 1), (16, .if_icmp .ne 7, 3), (19, .iconst 0, 1), (20, .goto 5, 3), (23, .bipush (-12), 2), (25, .ireturn, 1)]
theorem oX5_refusalOf_0 : okC cX5_refusalOf eX5_refusalOf_0 = true := by decide +kernel
theorem dX5_refusalOf_0 : decode cX5_refusalOf 0 = .ok (.aload_n 0, 1) := dOf oX5_refusalOf_0 0 rfl
theorem dX5_refusalOf_1 : decode cX5_refusalOf 1 = .ok (.getfield 19, 3) := dOf oX5_refusalOf_0 1 rfl
theorem dX5_refusalOf_4 : decode cX5_refusalOf 4 = .ok (.iconst (-1), 1) := dOf oX5_refusalOf_0 2 rfl
theorem dX5_refusalOf_5 : decode cX5_refusalOf 5 = .ok (.if_icmp .ne 6, 3) := dOf oX5_refusalOf_0 3 rfl
theorem dX5_refusalOf_8 : decode cX5_refusalOf 8 = .ok (.bipush (-11), 2) := dOf oX5_refusalOf_0 4 rfl
theorem dX5_refusalOf_10 : decode cX5_refusalOf 10 = .ok (.ireturn, 1) := dOf oX5_refusalOf_0 5 rfl
theorem dX5_refusalOf_11 : decode cX5_refusalOf 11 = .ok (.aload_n 0, 1) := dOf oX5_refusalOf_0 6 rfl
theorem dX5_refusalOf_12 : decode cX5_refusalOf 12 = .ok (.getfield 19, 3) := dOf oX5_refusalOf_0 7 rfl
theorem dX5_refusalOf_15 : decode cX5_refusalOf 15 = .ok (.iload_n 1, 1) := dOf oX5_refusalOf_0 8 rfl
theorem dX5_refusalOf_16 : decode cX5_refusalOf 16 = .ok (.if_icmp .ne 7, 3) := dOf oX5_refusalOf_0 9 rfl
theorem dX5_refusalOf_19 : decode cX5_refusalOf 19 = .ok (.iconst 0, 1) := dOf oX5_refusalOf_0 10 rfl
theorem dX5_refusalOf_20 : decode cX5_refusalOf 20 = .ok (.goto 5, 3) := dOf oX5_refusalOf_0 11 rfl
theorem dX5_refusalOf_23 : decode cX5_refusalOf 23 = .ok (.bipush (-12), 2) := dOf oX5_refusalOf_0 12 rfl
theorem dX5_refusalOf_25 : decode cX5_refusalOf 25 = .ok (.ireturn, 1) := dOf oX5_refusalOf_0 13 rfl
def eX5_holds_0 : List (Nat × Instr × Nat) := [(0, .iload_n 1, 1), (1, .ifCond .lt 17, 3), (4, .iload_n 1, 1), (5, .aload_n 0, 1), (6, .getfield 15, 3), (9, .iload_n 2, 1), (10, .isub, 1), (11, .if_icmp .gt 7, 3), (14, .iconst 1, 1), (15, .goto 4, 3), (18, .iconst 0, 1), (19, .ireturn, 1)]
theorem oX5_holds_0 : okC cX5_holds eX5_holds_0 = true := by decide +kernel
theorem dX5_holds_0 : decode cX5_holds 0 = .ok (.iload_n 1, 1) := dOf oX5_holds_0 0 rfl
theorem dX5_holds_1 : decode cX5_holds 1 = .ok (.ifCond .lt 17, 3) := dOf oX5_holds_0 1 rfl
theorem dX5_holds_4 : decode cX5_holds 4 = .ok (.iload_n 1, 1) := dOf oX5_holds_0 2 rfl
theorem dX5_holds_5 : decode cX5_holds 5 = .ok (.aload_n 0, 1) := dOf oX5_holds_0 3 rfl
theorem dX5_holds_6 : decode cX5_holds 6 = .ok (.getfield 15, 3) := dOf oX5_holds_0 4 rfl
theorem dX5_holds_9 : decode cX5_holds 9 = .ok (.iload_n 2, 1) := dOf oX5_holds_0 5 rfl
theorem dX5_holds_10 : decode cX5_holds 10 = .ok (.isub, 1) := dOf oX5_holds_0 6 rfl
theorem dX5_holds_11 : decode cX5_holds 11 = .ok (.if_icmp .gt 7, 3) := dOf oX5_holds_0 7 rfl
theorem dX5_holds_14 : decode cX5_holds 14 = .ok (.iconst 1, 1) := dOf oX5_holds_0 8 rfl
theorem dX5_holds_15 : decode cX5_holds 15 = .ok (.goto 4, 3) := dOf oX5_holds_0 9 rfl
theorem dX5_holds_18 : decode cX5_holds 18 = .ok (.iconst 0, 1) := dOf oX5_holds_0 10 rfl
theorem dX5_holds_19 : decode cX5_holds 19 = .ok (.ireturn, 1) := dOf oX5_holds_0 11 rfl
def eX5_write_0 : List (Nat × Instr × Nat) := [(0, .aload_n 0, 1), (1, .getfield 19, 3), (4, .ifCond .ne 14, 3), (7, .aload_n 0, 1), (8, .getfield 9, 3), (11, .iload_n 1, 1), (12, .iload_n 2, 1), (13, .i2b, 1), (14, .iastore, 1), (15, .goto 29, 3), (18, .aload_n 0, 1), (19, .getfield 19, 3), (22, .iconst 1, 1), (23, .if_icmp .ne 14, 3), (26, .aload_n 0, 1), (27, .getfield 9, 3), (30, .iload_n 1, 1), (31, .iload_n 2, 1), (32, .i2s, 1), (33, .iastore, 1), (34, .goto 10, 3), (37, .aload_n 0, 1), (38, .getfield 9, 3), (41, .iload_n 1, 1), (42, .iload_n 2, 1), (43, .iastore, 1), (44, .return_, 1)]
theorem oX5_write_0 : okC cX5_write eX5_write_0 = true := by decide +kernel
theorem dX5_write_0 : decode cX5_write 0 = .ok (.aload_n 0, 1) := dOf oX5_write_0 0 rfl
theorem dX5_write_1 : decode cX5_write 1 = .ok (.getfield 19, 3) := dOf oX5_write_0 1 rfl
theorem dX5_write_4 : decode cX5_write 4 = .ok (.ifCond .ne 14, 3) := dOf oX5_write_0 2 rfl
theorem dX5_write_7 : decode cX5_write 7 = .ok (.aload_n 0, 1) := dOf oX5_write_0 3 rfl
theorem dX5_write_8 : decode cX5_write 8 = .ok (.getfield 9, 3) := dOf oX5_write_0 4 rfl
theorem dX5_write_11 : decode cX5_write 11 = .ok (.iload_n 1, 1) := dOf oX5_write_0 5 rfl
theorem dX5_write_12 : decode cX5_write 12 = .ok (.iload_n 2, 1) := dOf oX5_write_0 6 rfl
theorem dX5_write_13 : decode cX5_write 13 = .ok (.i2b, 1) := dOf oX5_write_0 7 rfl
theorem dX5_write_14 : decode cX5_write 14 = .ok (.iastore, 1) := dOf oX5_write_0 8 rfl
theorem dX5_write_15 : decode cX5_write 15 = .ok (.goto 29, 3) := dOf oX5_write_0 9 rfl
theorem dX5_write_18 : decode cX5_write 18 = .ok (.aload_n 0, 1) := dOf oX5_write_0 10 rfl
theorem dX5_write_19 : decode cX5_write 19 = .ok (.getfield 19, 3) := dOf oX5_write_0 11 rfl
theorem dX5_write_22 : decode cX5_write 22 = .ok (.iconst 1, 1) := dOf oX5_write_0 12 rfl
theorem dX5_write_23 : decode cX5_write 23 = .ok (.if_icmp .ne 14, 3) := dOf oX5_write_0 13 rfl
theorem dX5_write_26 : decode cX5_write 26 = .ok (.aload_n 0, 1) := dOf oX5_write_0 14 rfl
theorem dX5_write_27 : decode cX5_write 27 = .ok (.getfield 9, 3) := dOf oX5_write_0 15 rfl
theorem dX5_write_30 : decode cX5_write 30 = .ok (.iload_n 1, 1) := dOf oX5_write_0 16 rfl
theorem dX5_write_31 : decode cX5_write 31 = .ok (.iload_n 2, 1) := dOf oX5_write_0 17 rfl
theorem dX5_write_32 : decode cX5_write 32 = .ok (.i2s, 1) := dOf oX5_write_0 18 rfl
theorem dX5_write_33 : decode cX5_write 33 = .ok (.iastore, 1) := dOf oX5_write_0 19 rfl
theorem dX5_write_34 : decode cX5_write 34 = .ok (.goto 10, 3) := dOf oX5_write_0 20 rfl
theorem dX5_write_37 : decode cX5_write 37 = .ok (.aload_n 0, 1) := dOf oX5_write_0 21 rfl
theorem dX5_write_38 : decode cX5_write 38 = .ok (.getfield 9, 3) := dOf oX5_write_0 22 rfl
theorem dX5_write_41 : decode cX5_write 41 = .ok (.iload_n 1, 1) := dOf oX5_write_0 23 rfl
theorem dX5_write_42 : decode cX5_write 42 = .ok (.iload_n 2, 1) := dOf oX5_write_0 24 rfl
theorem dX5_write_43 : decode cX5_write 43 = .ok (.iastore, 1) := dOf oX5_write_0 25 rfl
theorem dX5_write_44 : decode cX5_write 44 = .ok (.return_, 1) := dOf oX5_write_0 26 rfl
def eX6_init_0 : List (Nat × Instr × Nat) := [(0, .aload_n 0, 1), (1, .invokespecial 3, 3), (4, .aload_n 0, 1), (5, .bipush 64, 2), (7, .anewarray 11, 3), (10, .putfield 13, 3), (13, .aload_n 0, 1), (14, .bipush 64, 2), (16, .newarray .int, 2), (18, .putfield 19, 3), (21, .aload_n 0, 1), (22, .iconst 0, 1), (23, .putfield 23, 3), (26, .iconst 0, 1), (27, .istore_n 1, 1), (28, .iload_n 1, 1), (29, .bipush 64, 2), (31, .if_icmp .ge 24, 3), (34, .aload_n 0, 1), (35, .getfield 13, 3), (38, .iload_n 1, 1), (39, .new 11, 3), (42, .dup, 1), (43, .bipush 35, 2), (45, .invokespecial 27, 3), (48, .aastore, 1), (49, .iinc 1 1, 3), (52, .goto (-24), 3), (55, .return_, 1)]
theorem oX6_init_0 : okC cX6_init eX6_init_0 = true := by decide +kernel
theorem dX6_init_0 : decode cX6_init 0 = .ok (.aload_n 0, 1) := dOf oX6_init_0 0 rfl
theorem dX6_init_1 : decode cX6_init 1 = .ok (.invokespecial 3, 3) := dOf oX6_init_0 1 rfl
theorem dX6_init_4 : decode cX6_init 4 = .ok (.aload_n 0, 1) := dOf oX6_init_0 2 rfl
theorem dX6_init_5 : decode cX6_init 5 = .ok (.bipush 64, 2) := dOf oX6_init_0 3 rfl
theorem dX6_init_7 : decode cX6_init 7 = .ok (.anewarray 11, 3) := dOf oX6_init_0 4 rfl
theorem dX6_init_10 : decode cX6_init 10 = .ok (.putfield 13, 3) := dOf oX6_init_0 5 rfl
theorem dX6_init_13 : decode cX6_init 13 = .ok (.aload_n 0, 1) := dOf oX6_init_0 6 rfl
theorem dX6_init_14 : decode cX6_init 14 = .ok (.bipush 64, 2) := dOf oX6_init_0 7 rfl
theorem dX6_init_16 : decode cX6_init 16 = .ok (.newarray .int, 2) := dOf oX6_init_0 8 rfl
theorem dX6_init_18 : decode cX6_init 18 = .ok (.putfield 19, 3) := dOf oX6_init_0 9 rfl
theorem dX6_init_21 : decode cX6_init 21 = .ok (.aload_n 0, 1) := dOf oX6_init_0 10 rfl
theorem dX6_init_22 : decode cX6_init 22 = .ok (.iconst 0, 1) := dOf oX6_init_0 11 rfl
theorem dX6_init_23 : decode cX6_init 23 = .ok (.putfield 23, 3) := dOf oX6_init_0 12 rfl
theorem dX6_init_26 : decode cX6_init 26 = .ok (.iconst 0, 1) := dOf oX6_init_0 13 rfl
theorem dX6_init_27 : decode cX6_init 27 = .ok (.istore_n 1, 1) := dOf oX6_init_0 14 rfl
theorem dX6_init_28 : decode cX6_init 28 = .ok (.iload_n 1, 1) := dOf oX6_init_0 15 rfl
theorem dX6_init_29 : decode cX6_init 29 = .ok (.bipush 64, 2) := dOf oX6_init_0 16 rfl
theorem dX6_init_31 : decode cX6_init 31 = .ok (.if_icmp .ge 24, 3) := dOf oX6_init_0 17 rfl
theorem dX6_init_34 : decode cX6_init 34 = .ok (.aload_n 0, 1) := dOf oX6_init_0 18 rfl
theorem dX6_init_35 : decode cX6_init 35 = .ok (.getfield 13, 3) := dOf oX6_init_0 19 rfl
theorem dX6_init_38 : decode cX6_init 38 = .ok (.iload_n 1, 1) := dOf oX6_init_0 20 rfl
theorem dX6_init_39 : decode cX6_init 39 = .ok (.new 11, 3) := dOf oX6_init_0 21 rfl
theorem dX6_init_42 : decode cX6_init 42 = .ok (.dup, 1) := dOf oX6_init_0 22 rfl
theorem dX6_init_43 : decode cX6_init 43 = .ok (.bipush 35, 2) := dOf oX6_init_0 23 rfl
theorem dX6_init_45 : decode cX6_init 45 = .ok (.invokespecial 27, 3) := dOf oX6_init_0 24 rfl
theorem dX6_init_48 : decode cX6_init 48 = .ok (.aastore, 1) := dOf oX6_init_0 25 rfl
theorem dX6_init_49 : decode cX6_init 49 = .ok (.iinc 1 1, 3) := dOf oX6_init_0 26 rfl
theorem dX6_init_52 : decode cX6_init 52 = .ok (.goto (-24), 3) := dOf oX6_init_0 27 rfl
theorem dX6_init_55 : decode cX6_init 55 = .ok (.return_, 1) := dOf oX6_init_0 28 rfl
def eX6_take_0 : List (Nat × Instr × Nat) := [(0, .aload_n 0, 1), (1, .iconst 0, 1), (2, .putfield 23, 3), (5, .iconst 0, 1), (6, .istore_n 3, 1), (7, .iload_n 3, 1), (8, .aload_n 1, 1), (9, .getfield 30, 3), (12, .if_icmp .ge 75, 3), (15, .aload_n 1, 1), (16, .getfield 33, 3), (19, .iload_n 3, 1), (20, .aaload, 1), (21, .aload_n 2, 1), (22, .aload_n 0, 1), (23, .getfield 13, 3), (26, .aload_n 0, 1), (27, .getfield 23, 3), (30, .aaload, 1), (31, .invokevirtual 37, 3), (34, .pop, 1), (35, .aload_n 0, 1), (36, .invokevirtual 43, 3), (39, .istore 4, 2), (41, .iload 4, 2), (43, .aload_n 0, 1), (44, .getfield 23, 3), (47, .if_icmp .ne 23, 3), (50, .aload_n 0, 1), (51, .getfield 19, 3), (54, .aload_n 0, 1), (55, .getfield 23, 3), (58, .iconst 0, 1), (59, .iastore, 1), (60, .aload_n 0, 1), (61, .dup, 1), (62, .getfield 23, 3), (65, .iconst 1, 1), (66, .iadd, 1), (67, .putfield 23, 3), (70, .aload_n 0, 1), (71, .getfield 19, 3), (74, .iload 4, 2), (76, .dup2, 1), (77, .iaload, 1), (78, .iconst 1, 1), (79, .iadd, 1), (80, .iastore, 1), (81, .iinc 3 1, 3), (84, .goto (-77), 3), (87, .return_, 1)]
theorem oX6_take_0 : okC cX6_take eX6_take_0 = true := by decide +kernel
theorem dX6_take_0 : decode cX6_take 0 = .ok (.aload_n 0, 1) := dOf oX6_take_0 0 rfl
theorem dX6_take_1 : decode cX6_take 1 = .ok (.iconst 0, 1) := dOf oX6_take_0 1 rfl
theorem dX6_take_2 : decode cX6_take 2 = .ok (.putfield 23, 3) := dOf oX6_take_0 2 rfl
theorem dX6_take_5 : decode cX6_take 5 = .ok (.iconst 0, 1) := dOf oX6_take_0 3 rfl
theorem dX6_take_6 : decode cX6_take 6 = .ok (.istore_n 3, 1) := dOf oX6_take_0 4 rfl
theorem dX6_take_7 : decode cX6_take 7 = .ok (.iload_n 3, 1) := dOf oX6_take_0 5 rfl
theorem dX6_take_8 : decode cX6_take 8 = .ok (.aload_n 1, 1) := dOf oX6_take_0 6 rfl
theorem dX6_take_9 : decode cX6_take 9 = .ok (.getfield 30, 3) := dOf oX6_take_0 7 rfl
theorem dX6_take_12 : decode cX6_take 12 = .ok (.if_icmp .ge 75, 3) := dOf oX6_take_0 8 rfl
theorem dX6_take_15 : decode cX6_take 15 = .ok (.aload_n 1, 1) := dOf oX6_take_0 9 rfl
theorem dX6_take_16 : decode cX6_take 16 = .ok (.getfield 33, 3) := dOf oX6_take_0 10 rfl
theorem dX6_take_19 : decode cX6_take 19 = .ok (.iload_n 3, 1) := dOf oX6_take_0 11 rfl
theorem dX6_take_20 : decode cX6_take 20 = .ok (.aaload, 1) := dOf oX6_take_0 12 rfl
theorem dX6_take_21 : decode cX6_take 21 = .ok (.aload_n 2, 1) := dOf oX6_take_0 13 rfl
theorem dX6_take_22 : decode cX6_take 22 = .ok (.aload_n 0, 1) := dOf oX6_take_0 14 rfl
theorem dX6_take_23 : decode cX6_take 23 = .ok (.getfield 13, 3) := dOf oX6_take_0 15 rfl
theorem dX6_take_26 : decode cX6_take 26 = .ok (.aload_n 0, 1) := dOf oX6_take_0 16 rfl
theorem dX6_take_27 : decode cX6_take 27 = .ok (.getfield 23, 3) := dOf oX6_take_0 17 rfl
theorem dX6_take_30 : decode cX6_take 30 = .ok (.aaload, 1) := dOf oX6_take_0 18 rfl
theorem dX6_take_31 : decode cX6_take 31 = .ok (.invokevirtual 37, 3) := dOf oX6_take_0 19 rfl
theorem dX6_take_34 : decode cX6_take 34 = .ok (.pop, 1) := dOf oX6_take_0 20 rfl
theorem dX6_take_35 : decode cX6_take 35 = .ok (.aload_n 0, 1) := dOf oX6_take_0 21 rfl
theorem dX6_take_36 : decode cX6_take 36 = .ok (.invokevirtual 43, 3) := dOf oX6_take_0 22 rfl
theorem dX6_take_39 : decode cX6_take 39 = .ok (.istore 4, 2) := dOf oX6_take_0 23 rfl
theorem dX6_take_41 : decode cX6_take 41 = .ok (.iload 4, 2) := dOf oX6_take_0 24 rfl
theorem dX6_take_43 : decode cX6_take 43 = .ok (.aload_n 0, 1) := dOf oX6_take_0 25 rfl
theorem dX6_take_44 : decode cX6_take 44 = .ok (.getfield 23, 3) := dOf oX6_take_0 26 rfl
theorem dX6_take_47 : decode cX6_take 47 = .ok (.if_icmp .ne 23, 3) := dOf oX6_take_0 27 rfl
theorem dX6_take_50 : decode cX6_take 50 = .ok (.aload_n 0, 1) := dOf oX6_take_0 28 rfl
theorem dX6_take_51 : decode cX6_take 51 = .ok (.getfield 19, 3) := dOf oX6_take_0 29 rfl
theorem dX6_take_54 : decode cX6_take 54 = .ok (.aload_n 0, 1) := dOf oX6_take_0 30 rfl
theorem dX6_take_55 : decode cX6_take 55 = .ok (.getfield 23, 3) := dOf oX6_take_0 31 rfl
theorem dX6_take_58 : decode cX6_take 58 = .ok (.iconst 0, 1) := dOf oX6_take_0 32 rfl
theorem dX6_take_59 : decode cX6_take 59 = .ok (.iastore, 1) := dOf oX6_take_0 33 rfl
theorem dX6_take_60 : decode cX6_take 60 = .ok (.aload_n 0, 1) := dOf oX6_take_0 34 rfl
theorem dX6_take_61 : decode cX6_take 61 = .ok (.dup, 1) := dOf oX6_take_0 35 rfl
theorem dX6_take_62 : decode cX6_take 62 = .ok (.getfield 23, 3) := dOf oX6_take_0 36 rfl
theorem dX6_take_65 : decode cX6_take 65 = .ok (.iconst 1, 1) := dOf oX6_take_0 37 rfl
theorem dX6_take_66 : decode cX6_take 66 = .ok (.iadd, 1) := dOf oX6_take_0 38 rfl
theorem dX6_take_67 : decode cX6_take 67 = .ok (.putfield 23, 3) := dOf oX6_take_0 39 rfl
theorem dX6_take_70 : decode cX6_take 70 = .ok (.aload_n 0, 1) := dOf oX6_take_0 40 rfl
theorem dX6_take_71 : decode cX6_take 71 = .ok (.getfield 19, 3) := dOf oX6_take_0 41 rfl
theorem dX6_take_74 : decode cX6_take 74 = .ok (.iload 4, 2) := dOf oX6_take_0 42 rfl
theorem dX6_take_76 : decode cX6_take 76 = .ok (.dup2, 1) := dOf oX6_take_0 43 rfl
theorem dX6_take_77 : decode cX6_take 77 = .ok (.iaload, 1) := dOf oX6_take_0 44 rfl
theorem dX6_take_78 : decode cX6_take 78 = .ok (.iconst 1, 1) := dOf oX6_take_0 45 rfl
theorem dX6_take_79 : decode cX6_take 79 = .ok (.iadd, 1) := dOf oX6_take_0 46 rfl
theorem dX6_take_80 : decode cX6_take 80 = .ok (.iastore, 1) := dOf oX6_take_0 47 rfl
theorem dX6_take_81 : decode cX6_take 81 = .ok (.iinc 3 1, 3) := dOf oX6_take_0 48 rfl
theorem dX6_take_84 : decode cX6_take 84 = .ok (.goto (-77), 3) := dOf oX6_take_0 49 rfl
theorem dX6_take_87 : decode cX6_take 87 = .ok (.return_, 1) := dOf oX6_take_0 50 rfl
def eX6_likeLatest_0 : List (Nat × Instr × Nat) := [(0, .iconst 0, 1), (1, .istore_n 1, 1), (2, .iload_n 1, 1), (3, .aload_n 0, 1), (4, .getfield 23, 3), (7, .if_icmp .ge 32, 3), (10, .aload_n 0, 1), (11, .getfield 13, 3), (14, .iload_n 1, 1), (15, .aaload, 1), (16, .aload_n 0, 1), (17, .getfield 13, 3), (20, .aload_n 0, 1), (21, .getfield 23, 3), (24, .aaload, 1), (25, .invokevirtual 47, 3), (28, .ifCond .eq 5, 3), (31, .iload_n 1, 1), (32, .ireturn, 1), (33, .iinc 1 1, 3), (36, .goto (-34), 3), (39, .aload_n 0, 1), (40, .getfield 23, 3), (43, .ireturn, 1)]
theorem oX6_likeLatest_0 : okC cX6_likeLatest eX6_likeLatest_0 = true := by decide +kernel
theorem dX6_likeLatest_0 : decode cX6_likeLatest 0 = .ok (.iconst 0, 1) := dOf oX6_likeLatest_0 0 rfl
theorem dX6_likeLatest_1 : decode cX6_likeLatest 1 = .ok (.istore_n 1, 1) := dOf oX6_likeLatest_0 1 rfl
theorem dX6_likeLatest_2 : decode cX6_likeLatest 2 = .ok (.iload_n 1, 1) := dOf oX6_likeLatest_0 2 rfl
theorem dX6_likeLatest_3 : decode cX6_likeLatest 3 = .ok (.aload_n 0, 1) := dOf oX6_likeLatest_0 3 rfl
theorem dX6_likeLatest_4 : decode cX6_likeLatest 4 = .ok (.getfield 23, 3) := dOf oX6_likeLatest_0 4 rfl
theorem dX6_likeLatest_7 : decode cX6_likeLatest 7 = .ok (.if_icmp .ge 32, 3) := dOf oX6_likeLatest_0 5 rfl
theorem dX6_likeLatest_10 : decode cX6_likeLatest 10 = .ok (.aload_n 0, 1) := dOf oX6_likeLatest_0 6 rfl
theorem dX6_likeLatest_11 : decode cX6_likeLatest 11 = .ok (.getfield 13, 3) := dOf oX6_likeLatest_0 7 rfl
theorem dX6_likeLatest_14 : decode cX6_likeLatest 14 = .ok (.iload_n 1, 1) := dOf oX6_likeLatest_0 8 rfl
theorem dX6_likeLatest_15 : decode cX6_likeLatest 15 = .ok (.aaload, 1) := dOf oX6_likeLatest_0 9 rfl
theorem dX6_likeLatest_16 : decode cX6_likeLatest 16 = .ok (.aload_n 0, 1) := dOf oX6_likeLatest_0 10 rfl
theorem dX6_likeLatest_17 : decode cX6_likeLatest 17 = .ok (.getfield 13, 3) := dOf oX6_likeLatest_0 11 rfl
theorem dX6_likeLatest_20 : decode cX6_likeLatest 20 = .ok (.aload_n 0, 1) := dOf oX6_likeLatest_0 12 rfl
theorem dX6_likeLatest_21 : decode cX6_likeLatest 21 = .ok (.getfield 23, 3) := dOf oX6_likeLatest_0 13 rfl
theorem dX6_likeLatest_24 : decode cX6_likeLatest 24 = .ok (.aaload, 1) := dOf oX6_likeLatest_0 14 rfl
theorem dX6_likeLatest_25 : decode cX6_likeLatest 25 = .ok (.invokevirtual 47, 3) := dOf oX6_likeLatest_0 15 rfl
theorem dX6_likeLatest_28 : decode cX6_likeLatest 28 = .ok (.ifCond .eq 5, 3) := dOf oX6_likeLatest_0 16 rfl
theorem dX6_likeLatest_31 : decode cX6_likeLatest 31 = .ok (.iload_n 1, 1) := dOf oX6_likeLatest_0 17 rfl
theorem dX6_likeLatest_32 : decode cX6_likeLatest 32 = .ok (.ireturn, 1) := dOf oX6_likeLatest_0 18 rfl
theorem dX6_likeLatest_33 : decode cX6_likeLatest 33 = .ok (.iinc 1 1, 3) := dOf oX6_likeLatest_0 19 rfl
theorem dX6_likeLatest_36 : decode cX6_likeLatest 36 = .ok (.goto (-34), 3) := dOf oX6_likeLatest_0 20 rfl
theorem dX6_likeLatest_39 : decode cX6_likeLatest 39 = .ok (.aload_n 0, 1) := dOf oX6_likeLatest_0 21 rfl
theorem dX6_likeLatest_40 : decode cX6_likeLatest 40 = .ok (.getfield 23, 3) := dOf oX6_likeLatest_0 22 rfl
theorem dX6_likeLatest_43 : decode cX6_likeLatest 43 = .ok (.ireturn, 1) := dOf oX6_likeLatest_0 23 rfl
def eX6_greatest_0 : List (Nat × Instr × Nat) := [(0, .iconst 0, 1), (1, .istore_n 1, 1), (2, .iconst 0, 1), (3, .istore_n 2, 1), (4, .iload_n 2, 1), (5, .aload_n 0, 1), (6, .getfield 23, 3), (9, .if_icmp .ge 20, 3), (12, .iload_n 1, 1), (13, .aload_n 0, 1), (14, .getfield 19, 3), (17, .iload_n 2, 1), (18, .iaload, 1), (19, .invokestatic 51, 3), (22, .istore_n 1, 1), (23, .iinc 2 1, 3), (26, .goto (-22), 3), (29, .iload_n 1, 1), (30, .ireturn, 1)]
theorem oX6_greatest_0 : okC cX6_greatest eX6_greatest_0 = true := by decide +kernel
theorem dX6_greatest_0 : decode cX6_greatest 0 = .ok (.iconst 0, 1) := dOf oX6_greatest_0 0 rfl
theorem dX6_greatest_1 : decode cX6_greatest 1 = .ok (.istore_n 1, 1) := dOf oX6_greatest_0 1 rfl
theorem dX6_greatest_2 : decode cX6_greatest 2 = .ok (.iconst 0, 1) := dOf oX6_greatest_0 2 rfl
theorem dX6_greatest_3 : decode cX6_greatest 3 = .ok (.istore_n 2, 1) := dOf oX6_greatest_0 3 rfl
theorem dX6_greatest_4 : decode cX6_greatest 4 = .ok (.iload_n 2, 1) := dOf oX6_greatest_0 4 rfl
theorem dX6_greatest_5 : decode cX6_greatest 5 = .ok (.aload_n 0, 1) := dOf oX6_greatest_0 5 rfl
theorem dX6_greatest_6 : decode cX6_greatest 6 = .ok (.getfield 23, 3) := dOf oX6_greatest_0 6 rfl
theorem dX6_greatest_9 : decode cX6_greatest 9 = .ok (.if_icmp .ge 20, 3) := dOf oX6_greatest_0 7 rfl
theorem dX6_greatest_12 : decode cX6_greatest 12 = .ok (.iload_n 1, 1) := dOf oX6_greatest_0 8 rfl
theorem dX6_greatest_13 : decode cX6_greatest 13 = .ok (.aload_n 0, 1) := dOf oX6_greatest_0 9 rfl
theorem dX6_greatest_14 : decode cX6_greatest 14 = .ok (.getfield 19, 3) := dOf oX6_greatest_0 10 rfl
theorem dX6_greatest_17 : decode cX6_greatest 17 = .ok (.iload_n 2, 1) := dOf oX6_greatest_0 11 rfl
theorem dX6_greatest_18 : decode cX6_greatest 18 = .ok (.iaload, 1) := dOf oX6_greatest_0 12 rfl
theorem dX6_greatest_19 : decode cX6_greatest 19 = .ok (.invokestatic 51, 3) := dOf oX6_greatest_0 13 rfl
theorem dX6_greatest_22 : decode cX6_greatest 22 = .ok (.istore_n 1, 1) := dOf oX6_greatest_0 14 rfl
theorem dX6_greatest_23 : decode cX6_greatest 23 = .ok (.iinc 2 1, 3) := dOf oX6_greatest_0 15 rfl
theorem dX6_greatest_26 : decode cX6_greatest 26 = .ok (.goto (-22), 3) := dOf oX6_greatest_0 16 rfl
theorem dX6_greatest_29 : decode cX6_greatest 29 = .ok (.iload_n 1, 1) := dOf oX6_greatest_0 17 rfl
theorem dX6_greatest_30 : decode cX6_greatest 30 = .ok (.ireturn, 1) := dOf oX6_greatest_0 18 rfl
def eX7_init_0 : List (Nat × Instr × Nat) := [(0, .aload_n 0, 1), (1, .invokespecial 3, 3), (4, .aload_n 0, 1), (5, .new 9, 3), (8, .dup, 1), (9, .invokespecial 11, 3), (12, .putfield 12, 3), (15, .aload_n 0, 1), (16, .new 18, 3), (19, .dup, 1), (20, .bipush 60, 2), (22, .invokespecial 20, 3), (25, .putfield 23, 3), (28, .aload_n 0, 1), (29, .iconst 0, 1), (30, .putfield 27, 3), (33, .return_, 1)]
theorem oX7_init_0 : okC cX7_init eX7_init_0 = true := by decide +kernel
theorem dX7_init_0 : decode cX7_init 0 = .ok (.aload_n 0, 1) := dOf oX7_init_0 0 rfl
theorem dX7_init_1 : decode cX7_init 1 = .ok (.invokespecial 3, 3) := dOf oX7_init_0 1 rfl
theorem dX7_init_4 : decode cX7_init 4 = .ok (.aload_n 0, 1) := dOf oX7_init_0 2 rfl
theorem dX7_init_5 : decode cX7_init 5 = .ok (.new 9, 3) := dOf oX7_init_0 3 rfl
theorem dX7_init_8 : decode cX7_init 8 = .ok (.dup, 1) := dOf oX7_init_0 4 rfl
theorem dX7_init_9 : decode cX7_init 9 = .ok (.invokespecial 11, 3) := dOf oX7_init_0 5 rfl
theorem dX7_init_12 : decode cX7_init 12 = .ok (.putfield 12, 3) := dOf oX7_init_0 6 rfl
theorem dX7_init_15 : decode cX7_init 15 = .ok (.aload_n 0, 1) := dOf oX7_init_0 7 rfl
theorem dX7_init_16 : decode cX7_init 16 = .ok (.new 18, 3) := dOf oX7_init_0 8 rfl
theorem dX7_init_19 : decode cX7_init 19 = .ok (.dup, 1) := dOf oX7_init_0 9 rfl
theorem dX7_init_20 : decode cX7_init 20 = .ok (.bipush 60, 2) := dOf oX7_init_0 10 rfl
theorem dX7_init_22 : decode cX7_init 22 = .ok (.invokespecial 20, 3) := dOf oX7_init_0 11 rfl
theorem dX7_init_25 : decode cX7_init 25 = .ok (.putfield 23, 3) := dOf oX7_init_0 12 rfl
theorem dX7_init_28 : decode cX7_init 28 = .ok (.aload_n 0, 1) := dOf oX7_init_0 13 rfl
theorem dX7_init_29 : decode cX7_init 29 = .ok (.iconst 0, 1) := dOf oX7_init_0 14 rfl
theorem dX7_init_30 : decode cX7_init 30 = .ok (.putfield 27, 3) := dOf oX7_init_0 15 rfl
theorem dX7_init_33 : decode cX7_init 33 = .ok (.return_, 1) := dOf oX7_init_0 16 rfl
def eX7_read_0 : List (Nat × Instr × Nat) := [(0, .aload_n 0, 1), (1, .getfield 23, 3), (4, .aload_n 1, 1), (5, .invokevirtual 31, 3), (8, .aload_n 0, 1), (9, .iconst 0, 1), (10, .putfield 27, 3), (13, .aload_n 0, 1), (14, .getfield 12, 3), (17, .invokevirtual 35, 3), (20, .iconst 0, 1), (21, .istore_n 2, 1), (22, .iload_n 2, 1), (23, .iconst 3, 1), (24, .if_icmp .ge 60, 3), (27, .aload_n 0, 1), (28, .invokevirtual 38, 3), (31, .ifCond .ne 8, 3), (34, .aload_n 0, 1), (35, .getfield 27, 3), (38, .ireturn, 1), (39, .aload_n 0, 1), (40, .invokevirtual 42, 3), (43, .istore_n 3, 1), (44, .iload_n 3, 1), (45, .ifCond .ne 5, 3), (48, .iconst (-1), 1), (49, .ireturn, 1), (50, .iload_n 3, 1), (51, .bipush 43, 2), (53, .if_icmp .ne 10, 3), (56, .aload_n 0, 1), (57, .invokevirtual 46, 3), (60, .ifCond .ne 8, 3), (63, .aload_n 0, 1), (64, .getfield 27, 3), (67, .ireturn, 1), (68, .aload_n 0, 1), (69, .dup, 1), (70, .getfield 27, 3), (73, .iconst 1, 1), (74, .iadd, 1), (75, .putfield 27, 3), (78, .iinc 2 1, 3), (81, .goto (-59), 3), (84, .aload_n 0, 1), (85, .getfield 27, 3), (88, .ireturn, 1)]
theorem oX7_read_0 : okC cX7_read eX7_read_0 = true := by decide +kernel
theorem dX7_read_0 : decode cX7_read 0 = .ok (.aload_n 0, 1) := dOf oX7_read_0 0 rfl
theorem dX7_read_1 : decode cX7_read 1 = .ok (.getfield 23, 3) := dOf oX7_read_0 1 rfl
theorem dX7_read_4 : decode cX7_read 4 = .ok (.aload_n 1, 1) := dOf oX7_read_0 2 rfl
theorem dX7_read_5 : decode cX7_read 5 = .ok (.invokevirtual 31, 3) := dOf oX7_read_0 3 rfl
theorem dX7_read_8 : decode cX7_read 8 = .ok (.aload_n 0, 1) := dOf oX7_read_0 4 rfl
theorem dX7_read_9 : decode cX7_read 9 = .ok (.iconst 0, 1) := dOf oX7_read_0 5 rfl
theorem dX7_read_10 : decode cX7_read 10 = .ok (.putfield 27, 3) := dOf oX7_read_0 6 rfl
theorem dX7_read_13 : decode cX7_read 13 = .ok (.aload_n 0, 1) := dOf oX7_read_0 7 rfl
theorem dX7_read_14 : decode cX7_read 14 = .ok (.getfield 12, 3) := dOf oX7_read_0 8 rfl
theorem dX7_read_17 : decode cX7_read 17 = .ok (.invokevirtual 35, 3) := dOf oX7_read_0 9 rfl
theorem dX7_read_20 : decode cX7_read 20 = .ok (.iconst 0, 1) := dOf oX7_read_0 10 rfl
theorem dX7_read_21 : decode cX7_read 21 = .ok (.istore_n 2, 1) := dOf oX7_read_0 11 rfl
theorem dX7_read_22 : decode cX7_read 22 = .ok (.iload_n 2, 1) := dOf oX7_read_0 12 rfl
theorem dX7_read_23 : decode cX7_read 23 = .ok (.iconst 3, 1) := dOf oX7_read_0 13 rfl
theorem dX7_read_24 : decode cX7_read 24 = .ok (.if_icmp .ge 60, 3) := dOf oX7_read_0 14 rfl
theorem dX7_read_27 : decode cX7_read 27 = .ok (.aload_n 0, 1) := dOf oX7_read_0 15 rfl
theorem dX7_read_28 : decode cX7_read 28 = .ok (.invokevirtual 38, 3) := dOf oX7_read_0 16 rfl
theorem dX7_read_31 : decode cX7_read 31 = .ok (.ifCond .ne 8, 3) := dOf oX7_read_0 17 rfl
theorem dX7_read_34 : decode cX7_read 34 = .ok (.aload_n 0, 1) := dOf oX7_read_0 18 rfl
theorem dX7_read_35 : decode cX7_read 35 = .ok (.getfield 27, 3) := dOf oX7_read_0 19 rfl
theorem dX7_read_38 : decode cX7_read 38 = .ok (.ireturn, 1) := dOf oX7_read_0 20 rfl
theorem dX7_read_39 : decode cX7_read 39 = .ok (.aload_n 0, 1) := dOf oX7_read_0 21 rfl
theorem dX7_read_40 : decode cX7_read 40 = .ok (.invokevirtual 42, 3) := dOf oX7_read_0 22 rfl
theorem dX7_read_43 : decode cX7_read 43 = .ok (.istore_n 3, 1) := dOf oX7_read_0 23 rfl
theorem dX7_read_44 : decode cX7_read 44 = .ok (.iload_n 3, 1) := dOf oX7_read_0 24 rfl
theorem dX7_read_45 : decode cX7_read 45 = .ok (.ifCond .ne 5, 3) := dOf oX7_read_0 25 rfl
theorem dX7_read_48 : decode cX7_read 48 = .ok (.iconst (-1), 1) := dOf oX7_read_0 26 rfl
theorem dX7_read_49 : decode cX7_read 49 = .ok (.ireturn, 1) := dOf oX7_read_0 27 rfl
theorem dX7_read_50 : decode cX7_read 50 = .ok (.iload_n 3, 1) := dOf oX7_read_0 28 rfl
theorem dX7_read_51 : decode cX7_read 51 = .ok (.bipush 43, 2) := dOf oX7_read_0 29 rfl
theorem dX7_read_53 : decode cX7_read 53 = .ok (.if_icmp .ne 10, 3) := dOf oX7_read_0 30 rfl
theorem dX7_read_56 : decode cX7_read 56 = .ok (.aload_n 0, 1) := dOf oX7_read_0 31 rfl
theorem dX7_read_57 : decode cX7_read 57 = .ok (.invokevirtual 46, 3) := dOf oX7_read_0 32 rfl
theorem dX7_read_60 : decode cX7_read 60 = .ok (.ifCond .ne 8, 3) := dOf oX7_read_0 33 rfl
theorem dX7_read_63 : decode cX7_read 63 = .ok (.aload_n 0, 1) := dOf oX7_read_0 34 rfl
theorem dX7_read_64 : decode cX7_read 64 = .ok (.getfield 27, 3) := dOf oX7_read_0 35 rfl
theorem dX7_read_67 : decode cX7_read 67 = .ok (.ireturn, 1) := dOf oX7_read_0 36 rfl
theorem dX7_read_68 : decode cX7_read 68 = .ok (.aload_n 0, 1) := dOf oX7_read_0 37 rfl
theorem dX7_read_69 : decode cX7_read 69 = .ok (.dup, 1) := dOf oX7_read_0 38 rfl
theorem dX7_read_70 : decode cX7_read 70 = .ok (.getfield 27, 3) := dOf oX7_read_0 39 rfl
theorem dX7_read_73 : decode cX7_read 73 = .ok (.iconst 1, 1) := dOf oX7_read_0 40 rfl
theorem dX7_read_74 : decode cX7_read 74 = .ok (.iadd, 1) := dOf oX7_read_0 41 rfl
theorem dX7_read_75 : decode cX7_read 75 = .ok (.putfield 27, 3) := dOf oX7_read_0 42 rfl
theorem dX7_read_78 : decode cX7_read 78 = .ok (.iinc 2 1, 3) := dOf oX7_read_0 43 rfl
theorem dX7_read_81 : decode cX7_read 81 = .ok (.goto (-59), 3) := dOf oX7_read_0 44 rfl
theorem dX7_read_84 : decode cX7_read 84 = .ok (.aload_n 0, 1) := dOf oX7_read_0 45 rfl
theorem dX7_read_85 : decode cX7_read 85 = .ok (.getfield 27, 3) := dOf oX7_read_0 46 rfl
theorem dX7_read_88 : decode cX7_read 88 = .ok (.ireturn, 1) := dOf oX7_read_0 47 rfl
def eX7_canGoOn_0 : List (Nat × Instr × Nat) := [(0, .aload_n 0, 1), (1, .getfield 12, 3), (4, .invokevirtual 49, 3), (7, .istore_n 1, 1), (8, .iload_n 1, 1), (9, .iconst 1, 1), (10, .if_icmp .eq 18, 3), (13, .iload_n 1, 1), (14, .iconst 2, 1), (15, .if_icmp .ne 17, 3), (18, .aload_n 0, 1), (19, .getfield 12, 3), (22, .invokevirtual 52, 3), (25, .ifCond .ne 7, 3), (28, .iconst 1, 1), (29, .goto 4, 3), (32, .iconst 0, 1), (33, .ireturn, 1)]
theorem oX7_canGoOn_0 : okC cX7_canGoOn eX7_canGoOn_0 = true := by decide +kernel
theorem dX7_canGoOn_0 : decode cX7_canGoOn 0 = .ok (.aload_n 0, 1) := dOf oX7_canGoOn_0 0 rfl
theorem dX7_canGoOn_1 : decode cX7_canGoOn 1 = .ok (.getfield 12, 3) := dOf oX7_canGoOn_0 1 rfl
theorem dX7_canGoOn_4 : decode cX7_canGoOn 4 = .ok (.invokevirtual 49, 3) := dOf oX7_canGoOn_0 2 rfl
theorem dX7_canGoOn_7 : decode cX7_canGoOn 7 = .ok (.istore_n 1, 1) := dOf oX7_canGoOn_0 3 rfl
theorem dX7_canGoOn_8 : decode cX7_canGoOn 8 = .ok (.iload_n 1, 1) := dOf oX7_canGoOn_0 4 rfl
theorem dX7_canGoOn_9 : decode cX7_canGoOn 9 = .ok (.iconst 1, 1) := dOf oX7_canGoOn_0 5 rfl
theorem dX7_canGoOn_10 : decode cX7_canGoOn 10 = .ok (.if_icmp .eq 18, 3) := dOf oX7_canGoOn_0 6 rfl
theorem dX7_canGoOn_13 : decode cX7_canGoOn 13 = .ok (.iload_n 1, 1) := dOf oX7_canGoOn_0 7 rfl
theorem dX7_canGoOn_14 : decode cX7_canGoOn 14 = .ok (.iconst 2, 1) := dOf oX7_canGoOn_0 8 rfl
theorem dX7_canGoOn_15 : decode cX7_canGoOn 15 = .ok (.if_icmp .ne 17, 3) := dOf oX7_canGoOn_0 9 rfl
theorem dX7_canGoOn_18 : decode cX7_canGoOn 18 = .ok (.aload_n 0, 1) := dOf oX7_canGoOn_0 10 rfl
theorem dX7_canGoOn_19 : decode cX7_canGoOn 19 = .ok (.getfield 12, 3) := dOf oX7_canGoOn_0 11 rfl
theorem dX7_canGoOn_22 : decode cX7_canGoOn 22 = .ok (.invokevirtual 52, 3) := dOf oX7_canGoOn_0 12 rfl
theorem dX7_canGoOn_25 : decode cX7_canGoOn 25 = .ok (.ifCond .ne 7, 3) := dOf oX7_canGoOn_0 13 rfl
theorem dX7_canGoOn_28 : decode cX7_canGoOn 28 = .ok (.iconst 1, 1) := dOf oX7_canGoOn_0 14 rfl
theorem dX7_canGoOn_29 : decode cX7_canGoOn 29 = .ok (.goto 4, 3) := dOf oX7_canGoOn_0 15 rfl
theorem dX7_canGoOn_32 : decode cX7_canGoOn 32 = .ok (.iconst 0, 1) := dOf oX7_canGoOn_0 16 rfl
theorem dX7_canGoOn_33 : decode cX7_canGoOn 33 = .ok (.ireturn, 1) := dOf oX7_canGoOn_0 17 rfl
def eX7_look_0 : List (Nat × Instr × Nat) := [(0, .aload_n 0, 1), (1, .getfield 27, 3), (4, .aload_n 0, 1), (5, .getfield 23, 3), (8, .getfield 55, 3), (11, .if_icmp .ge 33, 3), (14, .aload_n 0, 1), (15, .getfield 23, 3), (18, .getfield 58, 3), (21, .aload_n 0, 1), (22, .getfield 27, 3), (25, .baload, 1), (26, .bipush 32, 2), (28, .if_icmp .ne 16, 3), (31, .aload_n 0, 1), (32, .dup, 1), (33, .getfield 27, 3), (36, .iconst 1, 1), (37, .iadd, 1), (38, .putfield 27, 3), (41, .goto (-41), 3), (44, .aload_n 0, 1), (45, .getfield 27, 3), (48, .aload_n 0, 1), (49, .getfield 23, 3), (52, .getfield 55, 3), (55, .if_icmp .ge 18, 3), (58, .aload_n 0, 1), (59, .getfield 23, 3), (62, .getfield 58, 3), (65, .aload_n 0, 1), (66, .getfield 27, 3), (69, .baload, 1), (70, .goto 4, 3), (73, .iconst 0, 1), (74, .ireturn, 1)]
theorem oX7_look_0 : okC cX7_look eX7_look_0 = true := by decide +kernel
theorem dX7_look_0 : decode cX7_look 0 = .ok (.aload_n 0, 1) := dOf oX7_look_0 0 rfl
theorem dX7_look_1 : decode cX7_look 1 = .ok (.getfield 27, 3) := dOf oX7_look_0 1 rfl
theorem dX7_look_4 : decode cX7_look 4 = .ok (.aload_n 0, 1) := dOf oX7_look_0 2 rfl
theorem dX7_look_5 : decode cX7_look 5 = .ok (.getfield 23, 3) := dOf oX7_look_0 3 rfl
theorem dX7_look_8 : decode cX7_look 8 = .ok (.getfield 55, 3) := dOf oX7_look_0 4 rfl
theorem dX7_look_11 : decode cX7_look 11 = .ok (.if_icmp .ge 33, 3) := dOf oX7_look_0 5 rfl
theorem dX7_look_14 : decode cX7_look 14 = .ok (.aload_n 0, 1) := dOf oX7_look_0 6 rfl
theorem dX7_look_15 : decode cX7_look 15 = .ok (.getfield 23, 3) := dOf oX7_look_0 7 rfl
theorem dX7_look_18 : decode cX7_look 18 = .ok (.getfield 58, 3) := dOf oX7_look_0 8 rfl
theorem dX7_look_21 : decode cX7_look 21 = .ok (.aload_n 0, 1) := dOf oX7_look_0 9 rfl
theorem dX7_look_22 : decode cX7_look 22 = .ok (.getfield 27, 3) := dOf oX7_look_0 10 rfl
theorem dX7_look_25 : decode cX7_look 25 = .ok (.baload, 1) := dOf oX7_look_0 11 rfl
theorem dX7_look_26 : decode cX7_look 26 = .ok (.bipush 32, 2) := dOf oX7_look_0 12 rfl
theorem dX7_look_28 : decode cX7_look 28 = .ok (.if_icmp .ne 16, 3) := dOf oX7_look_0 13 rfl
theorem dX7_look_31 : decode cX7_look 31 = .ok (.aload_n 0, 1) := dOf oX7_look_0 14 rfl
theorem dX7_look_32 : decode cX7_look 32 = .ok (.dup, 1) := dOf oX7_look_0 15 rfl
theorem dX7_look_33 : decode cX7_look 33 = .ok (.getfield 27, 3) := dOf oX7_look_0 16 rfl
theorem dX7_look_36 : decode cX7_look 36 = .ok (.iconst 1, 1) := dOf oX7_look_0 17 rfl
theorem dX7_look_37 : decode cX7_look 37 = .ok (.iadd, 1) := dOf oX7_look_0 18 rfl
theorem dX7_look_38 : decode cX7_look 38 = .ok (.putfield 27, 3) := dOf oX7_look_0 19 rfl
theorem dX7_look_41 : decode cX7_look 41 = .ok (.goto (-41), 3) := dOf oX7_look_0 20 rfl
theorem dX7_look_44 : decode cX7_look 44 = .ok (.aload_n 0, 1) := dOf oX7_look_0 21 rfl
theorem dX7_look_45 : decode cX7_look 45 = .ok (.getfield 27, 3) := dOf oX7_look_0 22 rfl
theorem dX7_look_48 : decode cX7_look 48 = .ok (.aload_n 0, 1) := dOf oX7_look_0 23 rfl
theorem dX7_look_49 : decode cX7_look 49 = .ok (.getfield 23, 3) := dOf oX7_look_0 24 rfl
theorem dX7_look_52 : decode cX7_look 52 = .ok (.getfield 55, 3) := dOf oX7_look_0 25 rfl
theorem dX7_look_55 : decode cX7_look 55 = .ok (.if_icmp .ge 18, 3) := dOf oX7_look_0 26 rfl
theorem dX7_look_58 : decode cX7_look 58 = .ok (.aload_n 0, 1) := dOf oX7_look_0 27 rfl
theorem dX7_look_59 : decode cX7_look 59 = .ok (.getfield 23, 3) := dOf oX7_look_0 28 rfl
theorem dX7_look_62 : decode cX7_look 62 = .ok (.getfield 58, 3) := dOf oX7_look_0 29 rfl
theorem dX7_look_65 : decode cX7_look 65 = .ok (.aload_n 0, 1) := dOf oX7_look_0 30 rfl
theorem dX7_look_66 : decode cX7_look 66 = .ok (.getfield 27, 3) := dOf oX7_look_0 31 rfl
theorem dX7_look_69 : decode cX7_look 69 = .ok (.baload, 1) := dOf oX7_look_0 32 rfl
theorem dX7_look_70 : decode cX7_look 70 = .ok (.goto 4, 3) := dOf oX7_look_0 33 rfl
theorem dX7_look_73 : decode cX7_look 73 = .ok (.iconst 0, 1) := dOf oX7_look_0 34 rfl
theorem dX7_look_74 : decode cX7_look 74 = .ok (.ireturn, 1) := dOf oX7_look_0 35 rfl
def eX7_readPiece_0 : List (Nat × Instr × Nat) := [(0, .aload_n 0, 1), (1, .invokevirtual 42, 3), (4, .bipush 34, 2), (6, .if_icmp .ne 18, 3), (9, .aload_n 0, 1), (10, .dup, 1), (11, .getfield 27, 3), (14, .iconst 1, 1), (15, .iadd, 1), (16, .putfield 27, 3), (19, .aload_n 0, 1), (20, .invokevirtual 62, 3), (23, .ireturn, 1), (24, .aload_n 0, 1), (25, .invokevirtual 65, 3), (28, .ireturn, 1)]
theorem oX7_readPiece_0 : okC cX7_readPiece eX7_readPiece_0 = true := by decide +kernel
theorem dX7_readPiece_0 : decode cX7_readPiece 0 = .ok (.aload_n 0, 1) := dOf oX7_readPiece_0 0 rfl
theorem dX7_readPiece_1 : decode cX7_readPiece 1 = .ok (.invokevirtual 42, 3) := dOf oX7_readPiece_0 1 rfl
theorem dX7_readPiece_4 : decode cX7_readPiece 4 = .ok (.bipush 34, 2) := dOf oX7_readPiece_0 2 rfl
theorem dX7_readPiece_6 : decode cX7_readPiece 6 = .ok (.if_icmp .ne 18, 3) := dOf oX7_readPiece_0 3 rfl
theorem dX7_readPiece_9 : decode cX7_readPiece 9 = .ok (.aload_n 0, 1) := dOf oX7_readPiece_0 4 rfl
theorem dX7_readPiece_10 : decode cX7_readPiece 10 = .ok (.dup, 1) := dOf oX7_readPiece_0 5 rfl
theorem dX7_readPiece_11 : decode cX7_readPiece 11 = .ok (.getfield 27, 3) := dOf oX7_readPiece_0 6 rfl
theorem dX7_readPiece_14 : decode cX7_readPiece 14 = .ok (.iconst 1, 1) := dOf oX7_readPiece_0 7 rfl
theorem dX7_readPiece_15 : decode cX7_readPiece 15 = .ok (.iadd, 1) := dOf oX7_readPiece_0 8 rfl
theorem dX7_readPiece_16 : decode cX7_readPiece 16 = .ok (.putfield 27, 3) := dOf oX7_readPiece_0 9 rfl
theorem dX7_readPiece_19 : decode cX7_readPiece 19 = .ok (.aload_n 0, 1) := dOf oX7_readPiece_0 10 rfl
theorem dX7_readPiece_20 : decode cX7_readPiece 20 = .ok (.invokevirtual 62, 3) := dOf oX7_readPiece_0 11 rfl
theorem dX7_readPiece_23 : decode cX7_readPiece 23 = .ok (.ireturn, 1) := dOf oX7_readPiece_0 12 rfl
theorem dX7_readPiece_24 : decode cX7_readPiece 24 = .ok (.aload_n 0, 1) := dOf oX7_readPiece_0 13 rfl
theorem dX7_readPiece_25 : decode cX7_readPiece 25 = .ok (.invokevirtual 65, 3) := dOf oX7_readPiece_0 14 rfl
theorem dX7_readPiece_28 : decode cX7_readPiece 28 = .ok (.ireturn, 1) := dOf oX7_readPiece_0 15 rfl
def eX7_readTyped_0 : List (Nat × Instr × Nat) := [(0, .iconst 0, 1), (1, .istore_n 1, 1), (2, .iconst 0, 1), (3, .istore_n 2, 1), (4, .iload_n 2, 1), (5, .iconst 3, 1), (6, .if_icmp .gt 97, 3), (9, .aload_n 0, 1), (10, .getfield 27, 3), (13, .aload_n 0, 1), (14, .getfield 23, 3), (17, .getfield 55, 3), (20, .if_icmp .ge 83, 3), (23, .aload_n 0, 1), (24, .getfield 23, 3), (27, .getfield 58, 3), (30, .aload_n 0, 1), (31, .getfield 27, 3), (34, .baload, 1), (35, .istore_n 3, 1), (36, .iload_n 3, 1), (37, .bipush 34, 2), (39, .if_icmp .ne 34, 3), (42, .iload_n 2, 1), (43, .ifCond .ne 5, 3), (46, .iconst 0, 1), (47, .ireturn, 1), (48, .aload_n 0, 1), (49, .dup, 1), (50, .getfield 27, 3), (53, .iconst 1, 1), (54, .iadd, 1), (55, .putfield 27, 3), (58, .aload_n 0, 1), (59, .getfield 12, 3), (62, .iload_n 2, 1), (63, .ldc 68, 2), (65, .imul, 1), (66, .iload_n 1, 1), (67, .iadd, 1), (68, .invokevirtual 69, 3), (71, .iconst 1, 1), (72, .ireturn, 1), (73, .iload_n 2, 1), (74, .iconst 3, 1), (75, .if_icmp .ne 5, 3), (78, .iconst 0, 1), (79, .ireturn, 1), (80, .iload_n 1, 1), (81, .bipush 8, 2), (83, .ishl, 1), (84, .iload_n 3, 1), (85, .ior, 1), (86, .istore_n 1, 1), (87, .aload_n 0, 1), (88, .dup, 1), (89, .getfield 27, 3), (92, .iconst 1, 1), (93, .iadd, 1), (94, .putfield 27, 3)]
theorem oX7_readTyped_0 : okC cX7_readTyped eX7_readTyped_0 = true := by decide +kernel
theorem dX7_readTyped_0 : decode cX7_readTyped 0 = .ok (.iconst 0, 1) := dOf oX7_readTyped_0 0 rfl
theorem dX7_readTyped_1 : decode cX7_readTyped 1 = .ok (.istore_n 1, 1) := dOf oX7_readTyped_0 1 rfl
theorem dX7_readTyped_2 : decode cX7_readTyped 2 = .ok (.iconst 0, 1) := dOf oX7_readTyped_0 2 rfl
theorem dX7_readTyped_3 : decode cX7_readTyped 3 = .ok (.istore_n 2, 1) := dOf oX7_readTyped_0 3 rfl
theorem dX7_readTyped_4 : decode cX7_readTyped 4 = .ok (.iload_n 2, 1) := dOf oX7_readTyped_0 4 rfl
theorem dX7_readTyped_5 : decode cX7_readTyped 5 = .ok (.iconst 3, 1) := dOf oX7_readTyped_0 5 rfl
theorem dX7_readTyped_6 : decode cX7_readTyped 6 = .ok (.if_icmp .gt 97, 3) := dOf oX7_readTyped_0 6 rfl
theorem dX7_readTyped_9 : decode cX7_readTyped 9 = .ok (.aload_n 0, 1) := dOf oX7_readTyped_0 7 rfl
theorem dX7_readTyped_10 : decode cX7_readTyped 10 = .ok (.getfield 27, 3) := dOf oX7_readTyped_0 8 rfl
theorem dX7_readTyped_13 : decode cX7_readTyped 13 = .ok (.aload_n 0, 1) := dOf oX7_readTyped_0 9 rfl
theorem dX7_readTyped_14 : decode cX7_readTyped 14 = .ok (.getfield 23, 3) := dOf oX7_readTyped_0 10 rfl
theorem dX7_readTyped_17 : decode cX7_readTyped 17 = .ok (.getfield 55, 3) := dOf oX7_readTyped_0 11 rfl
theorem dX7_readTyped_20 : decode cX7_readTyped 20 = .ok (.if_icmp .ge 83, 3) := dOf oX7_readTyped_0 12 rfl
theorem dX7_readTyped_23 : decode cX7_readTyped 23 = .ok (.aload_n 0, 1) := dOf oX7_readTyped_0 13 rfl
theorem dX7_readTyped_24 : decode cX7_readTyped 24 = .ok (.getfield 23, 3) := dOf oX7_readTyped_0 14 rfl
theorem dX7_readTyped_27 : decode cX7_readTyped 27 = .ok (.getfield 58, 3) := dOf oX7_readTyped_0 15 rfl
theorem dX7_readTyped_30 : decode cX7_readTyped 30 = .ok (.aload_n 0, 1) := dOf oX7_readTyped_0 16 rfl
theorem dX7_readTyped_31 : decode cX7_readTyped 31 = .ok (.getfield 27, 3) := dOf oX7_readTyped_0 17 rfl
theorem dX7_readTyped_34 : decode cX7_readTyped 34 = .ok (.baload, 1) := dOf oX7_readTyped_0 18 rfl
theorem dX7_readTyped_35 : decode cX7_readTyped 35 = .ok (.istore_n 3, 1) := dOf oX7_readTyped_0 19 rfl
theorem dX7_readTyped_36 : decode cX7_readTyped 36 = .ok (.iload_n 3, 1) := dOf oX7_readTyped_0 20 rfl
theorem dX7_readTyped_37 : decode cX7_readTyped 37 = .ok (.bipush 34, 2) := dOf oX7_readTyped_0 21 rfl
theorem dX7_readTyped_39 : decode cX7_readTyped 39 = .ok (.if_icmp .ne 34, 3) := dOf oX7_readTyped_0 22 rfl
theorem dX7_readTyped_42 : decode cX7_readTyped 42 = .ok (.iload_n 2, 1) := dOf oX7_readTyped_0 23 rfl
theorem dX7_readTyped_43 : decode cX7_readTyped 43 = .ok (.ifCond .ne 5, 3) := dOf oX7_readTyped_0 24 rfl
theorem dX7_readTyped_46 : decode cX7_readTyped 46 = .ok (.iconst 0, 1) := dOf oX7_readTyped_0 25 rfl
theorem dX7_readTyped_47 : decode cX7_readTyped 47 = .ok (.ireturn, 1) := dOf oX7_readTyped_0 26 rfl
theorem dX7_readTyped_48 : decode cX7_readTyped 48 = .ok (.aload_n 0, 1) := dOf oX7_readTyped_0 27 rfl
theorem dX7_readTyped_49 : decode cX7_readTyped 49 = .ok (.dup, 1) := dOf oX7_readTyped_0 28 rfl
theorem dX7_readTyped_50 : decode cX7_readTyped 50 = .ok (.getfield 27, 3) := dOf oX7_readTyped_0 29 rfl
theorem dX7_readTyped_53 : decode cX7_readTyped 53 = .ok (.iconst 1, 1) := dOf oX7_readTyped_0 30 rfl
theorem dX7_readTyped_54 : decode cX7_readTyped 54 = .ok (.iadd, 1) := dOf oX7_readTyped_0 31 rfl
theorem dX7_readTyped_55 : decode cX7_readTyped 55 = .ok (.putfield 27, 3) := dOf oX7_readTyped_0 32 rfl
theorem dX7_readTyped_58 : decode cX7_readTyped 58 = .ok (.aload_n 0, 1) := dOf oX7_readTyped_0 33 rfl
theorem dX7_readTyped_59 : decode cX7_readTyped 59 = .ok (.getfield 12, 3) := dOf oX7_readTyped_0 34 rfl
theorem dX7_readTyped_62 : decode cX7_readTyped 62 = .ok (.iload_n 2, 1) := dOf oX7_readTyped_0 35 rfl
theorem dX7_readTyped_63 : decode cX7_readTyped 63 = .ok (.ldc 68, 2) := dOf oX7_readTyped_0 36 rfl
theorem dX7_readTyped_65 : decode cX7_readTyped 65 = .ok (.imul, 1) := dOf oX7_readTyped_0 37 rfl
theorem dX7_readTyped_66 : decode cX7_readTyped 66 = .ok (.iload_n 1, 1) := dOf oX7_readTyped_0 38 rfl
theorem dX7_readTyped_67 : decode cX7_readTyped 67 = .ok (.iadd, 1) := dOf oX7_readTyped_0 39 rfl
theorem dX7_readTyped_68 : decode cX7_readTyped 68 = .ok (.invokevirtual 69, 3) := dOf oX7_readTyped_0 40 rfl
theorem dX7_readTyped_71 : decode cX7_readTyped 71 = .ok (.iconst 1, 1) := dOf oX7_readTyped_0 41 rfl
theorem dX7_readTyped_72 : decode cX7_readTyped 72 = .ok (.ireturn, 1) := dOf oX7_readTyped_0 42 rfl
theorem dX7_readTyped_73 : decode cX7_readTyped 73 = .ok (.iload_n 2, 1) := dOf oX7_readTyped_0 43 rfl
theorem dX7_readTyped_74 : decode cX7_readTyped 74 = .ok (.iconst 3, 1) := dOf oX7_readTyped_0 44 rfl
theorem dX7_readTyped_75 : decode cX7_readTyped 75 = .ok (.if_icmp .ne 5, 3) := dOf oX7_readTyped_0 45 rfl
theorem dX7_readTyped_78 : decode cX7_readTyped 78 = .ok (.iconst 0, 1) := dOf oX7_readTyped_0 46 rfl
theorem dX7_readTyped_79 : decode cX7_readTyped 79 = .ok (.ireturn, 1) := dOf oX7_readTyped_0 47 rfl
theorem dX7_readTyped_80 : decode cX7_readTyped 80 = .ok (.iload_n 1, 1) := dOf oX7_readTyped_0 48 rfl
theorem dX7_readTyped_81 : decode cX7_readTyped 81 = .ok (.bipush 8, 2) := dOf oX7_readTyped_0 49 rfl
theorem dX7_readTyped_83 : decode cX7_readTyped 83 = .ok (.ishl, 1) := dOf oX7_readTyped_0 50 rfl
theorem dX7_readTyped_84 : decode cX7_readTyped 84 = .ok (.iload_n 3, 1) := dOf oX7_readTyped_0 51 rfl
theorem dX7_readTyped_85 : decode cX7_readTyped 85 = .ok (.ior, 1) := dOf oX7_readTyped_0 52 rfl
theorem dX7_readTyped_86 : decode cX7_readTyped 86 = .ok (.istore_n 1, 1) := dOf oX7_readTyped_0 53 rfl
theorem dX7_readTyped_87 : decode cX7_readTyped 87 = .ok (.aload_n 0, 1) := dOf oX7_readTyped_0 54 rfl
theorem dX7_readTyped_88 : decode cX7_readTyped 88 = .ok (.dup, 1) := dOf oX7_readTyped_0 55 rfl
theorem dX7_readTyped_89 : decode cX7_readTyped 89 = .ok (.getfield 27, 3) := dOf oX7_readTyped_0 56 rfl
theorem dX7_readTyped_92 : decode cX7_readTyped 92 = .ok (.iconst 1, 1) := dOf oX7_readTyped_0 57 rfl
theorem dX7_readTyped_93 : decode cX7_readTyped 93 = .ok (.iadd, 1) := dOf oX7_readTyped_0 58 rfl
theorem dX7_readTyped_94 : decode cX7_readTyped 94 = .ok (.putfield 27, 3) := dOf oX7_readTyped_0 59 rfl
def eX7_readTyped_1 : List (Nat × Instr × Nat) := [(97, .iinc 2 1, 3), (100, .goto (-96), 3), (103, .iconst 0, 1), (104, .ireturn, 1)]
theorem oX7_readTyped_1 : okC cX7_readTyped eX7_readTyped_1 = true := by decide +kernel
theorem dX7_readTyped_97 : decode cX7_readTyped 97 = .ok (.iinc 2 1, 3) := dOf oX7_readTyped_1 0 rfl
theorem dX7_readTyped_100 : decode cX7_readTyped 100 = .ok (.goto (-96), 3) := dOf oX7_readTyped_1 1 rfl
theorem dX7_readTyped_103 : decode cX7_readTyped 103 = .ok (.iconst 0, 1) := dOf oX7_readTyped_1 2 rfl
theorem dX7_readTyped_104 : decode cX7_readTyped 104 = .ok (.ireturn, 1) := dOf oX7_readTyped_1 3 rfl
def eX7_readCut_0 : List (Nat × Instr × Nat) := [(0, .aload_n 0, 1), (1, .invokevirtual 72, 3), (4, .istore_n 1, 1), (5, .iload_n 1, 1), (6, .iconst (-1), 1), (7, .if_icmp .eq 12, 3), (10, .aload_n 0, 1), (11, .invokevirtual 42, 3), (14, .bipush 44, 2), (16, .if_icmp .eq 5, 3), (19, .iconst 0, 1), (20, .ireturn, 1), (21, .aload_n 0, 1), (22, .dup, 1), (23, .getfield 27, 3), (26, .iconst 1, 1), (27, .iadd, 1), (28, .putfield 27, 3), (31, .aload_n 0, 1), (32, .invokevirtual 72, 3), (35, .istore_n 2, 1), (36, .iload_n 2, 1), (37, .iconst (-1), 1), (38, .if_icmp .ne 5, 3), (41, .iconst 0, 1), (42, .ireturn, 1), (43, .aload_n 0, 1), (44, .getfield 12, 3), (47, .bipush 120, 2), (49, .iload_n 1, 1), (50, .imul, 1), (51, .iconst 3, 1), (52, .iload_n 2, 1), (53, .imul, 1), (54, .iadd, 1), (55, .aload_n 0, 1), (56, .invokevirtual 75, 3), (59, .iadd, 1), (60, .invokevirtual 69, 3), (63, .iconst 1, 1), (64, .ireturn, 1)]
theorem oX7_readCut_0 : okC cX7_readCut eX7_readCut_0 = true := by decide +kernel
theorem dX7_readCut_0 : decode cX7_readCut 0 = .ok (.aload_n 0, 1) := dOf oX7_readCut_0 0 rfl
theorem dX7_readCut_1 : decode cX7_readCut 1 = .ok (.invokevirtual 72, 3) := dOf oX7_readCut_0 1 rfl
theorem dX7_readCut_4 : decode cX7_readCut 4 = .ok (.istore_n 1, 1) := dOf oX7_readCut_0 2 rfl
theorem dX7_readCut_5 : decode cX7_readCut 5 = .ok (.iload_n 1, 1) := dOf oX7_readCut_0 3 rfl
theorem dX7_readCut_6 : decode cX7_readCut 6 = .ok (.iconst (-1), 1) := dOf oX7_readCut_0 4 rfl
theorem dX7_readCut_7 : decode cX7_readCut 7 = .ok (.if_icmp .eq 12, 3) := dOf oX7_readCut_0 5 rfl
theorem dX7_readCut_10 : decode cX7_readCut 10 = .ok (.aload_n 0, 1) := dOf oX7_readCut_0 6 rfl
theorem dX7_readCut_11 : decode cX7_readCut 11 = .ok (.invokevirtual 42, 3) := dOf oX7_readCut_0 7 rfl
theorem dX7_readCut_14 : decode cX7_readCut 14 = .ok (.bipush 44, 2) := dOf oX7_readCut_0 8 rfl
theorem dX7_readCut_16 : decode cX7_readCut 16 = .ok (.if_icmp .eq 5, 3) := dOf oX7_readCut_0 9 rfl
theorem dX7_readCut_19 : decode cX7_readCut 19 = .ok (.iconst 0, 1) := dOf oX7_readCut_0 10 rfl
theorem dX7_readCut_20 : decode cX7_readCut 20 = .ok (.ireturn, 1) := dOf oX7_readCut_0 11 rfl
theorem dX7_readCut_21 : decode cX7_readCut 21 = .ok (.aload_n 0, 1) := dOf oX7_readCut_0 12 rfl
theorem dX7_readCut_22 : decode cX7_readCut 22 = .ok (.dup, 1) := dOf oX7_readCut_0 13 rfl
theorem dX7_readCut_23 : decode cX7_readCut 23 = .ok (.getfield 27, 3) := dOf oX7_readCut_0 14 rfl
theorem dX7_readCut_26 : decode cX7_readCut 26 = .ok (.iconst 1, 1) := dOf oX7_readCut_0 15 rfl
theorem dX7_readCut_27 : decode cX7_readCut 27 = .ok (.iadd, 1) := dOf oX7_readCut_0 16 rfl
theorem dX7_readCut_28 : decode cX7_readCut 28 = .ok (.putfield 27, 3) := dOf oX7_readCut_0 17 rfl
theorem dX7_readCut_31 : decode cX7_readCut 31 = .ok (.aload_n 0, 1) := dOf oX7_readCut_0 18 rfl
theorem dX7_readCut_32 : decode cX7_readCut 32 = .ok (.invokevirtual 72, 3) := dOf oX7_readCut_0 19 rfl
theorem dX7_readCut_35 : decode cX7_readCut 35 = .ok (.istore_n 2, 1) := dOf oX7_readCut_0 20 rfl
theorem dX7_readCut_36 : decode cX7_readCut 36 = .ok (.iload_n 2, 1) := dOf oX7_readCut_0 21 rfl
theorem dX7_readCut_37 : decode cX7_readCut 37 = .ok (.iconst (-1), 1) := dOf oX7_readCut_0 22 rfl
theorem dX7_readCut_38 : decode cX7_readCut 38 = .ok (.if_icmp .ne 5, 3) := dOf oX7_readCut_0 23 rfl
theorem dX7_readCut_41 : decode cX7_readCut 41 = .ok (.iconst 0, 1) := dOf oX7_readCut_0 24 rfl
theorem dX7_readCut_42 : decode cX7_readCut 42 = .ok (.ireturn, 1) := dOf oX7_readCut_0 25 rfl
theorem dX7_readCut_43 : decode cX7_readCut 43 = .ok (.aload_n 0, 1) := dOf oX7_readCut_0 26 rfl
theorem dX7_readCut_44 : decode cX7_readCut 44 = .ok (.getfield 12, 3) := dOf oX7_readCut_0 27 rfl
theorem dX7_readCut_47 : decode cX7_readCut 47 = .ok (.bipush 120, 2) := dOf oX7_readCut_0 28 rfl
theorem dX7_readCut_49 : decode cX7_readCut 49 = .ok (.iload_n 1, 1) := dOf oX7_readCut_0 29 rfl
theorem dX7_readCut_50 : decode cX7_readCut 50 = .ok (.imul, 1) := dOf oX7_readCut_0 30 rfl
theorem dX7_readCut_51 : decode cX7_readCut 51 = .ok (.iconst 3, 1) := dOf oX7_readCut_0 31 rfl
theorem dX7_readCut_52 : decode cX7_readCut 52 = .ok (.iload_n 2, 1) := dOf oX7_readCut_0 32 rfl
theorem dX7_readCut_53 : decode cX7_readCut 53 = .ok (.imul, 1) := dOf oX7_readCut_0 33 rfl
theorem dX7_readCut_54 : decode cX7_readCut 54 = .ok (.iadd, 1) := dOf oX7_readCut_0 34 rfl
theorem dX7_readCut_55 : decode cX7_readCut 55 = .ok (.aload_n 0, 1) := dOf oX7_readCut_0 35 rfl
theorem dX7_readCut_56 : decode cX7_readCut 56 = .ok (.invokevirtual 75, 3) := dOf oX7_readCut_0 36 rfl
theorem dX7_readCut_59 : decode cX7_readCut 59 = .ok (.iadd, 1) := dOf oX7_readCut_0 37 rfl
theorem dX7_readCut_60 : decode cX7_readCut 60 = .ok (.invokevirtual 69, 3) := dOf oX7_readCut_0 38 rfl
theorem dX7_readCut_63 : decode cX7_readCut 63 = .ok (.iconst 1, 1) := dOf oX7_readCut_0 39 rfl
theorem dX7_readCut_64 : decode cX7_readCut 64 = .ok (.ireturn, 1) := dOf oX7_readCut_0 40 rfl
def eX7_readTurn_0 : List (Nat × Instr × Nat) := [(0, .aload_n 0, 1), (1, .invokevirtual 42, 3), (4, .istore_n 1, 1), (5, .iload_n 1, 1), (6, .bipush 117, 2), (8, .if_icmp .eq 11, 3), (11, .iload_n 1, 1), (12, .bipush 108, 2), (14, .if_icmp .eq 5, 3), (17, .iconst 0, 1), (18, .ireturn, 1), (19, .aload_n 0, 1), (20, .dup, 1), (21, .getfield 27, 3), (24, .iconst 1, 1), (25, .iadd, 1), (26, .putfield 27, 3), (29, .iload_n 1, 1), (30, .bipush 117, 2), (32, .if_icmp .ne 7, 3), (35, .iconst 1, 1), (36, .goto 4, 3), (39, .iconst 2, 1), (40, .ireturn, 1)]
theorem oX7_readTurn_0 : okC cX7_readTurn eX7_readTurn_0 = true := by decide +kernel
theorem dX7_readTurn_0 : decode cX7_readTurn 0 = .ok (.aload_n 0, 1) := dOf oX7_readTurn_0 0 rfl
theorem dX7_readTurn_1 : decode cX7_readTurn 1 = .ok (.invokevirtual 42, 3) := dOf oX7_readTurn_0 1 rfl
theorem dX7_readTurn_4 : decode cX7_readTurn 4 = .ok (.istore_n 1, 1) := dOf oX7_readTurn_0 2 rfl
theorem dX7_readTurn_5 : decode cX7_readTurn 5 = .ok (.iload_n 1, 1) := dOf oX7_readTurn_0 3 rfl
theorem dX7_readTurn_6 : decode cX7_readTurn 6 = .ok (.bipush 117, 2) := dOf oX7_readTurn_0 4 rfl
theorem dX7_readTurn_8 : decode cX7_readTurn 8 = .ok (.if_icmp .eq 11, 3) := dOf oX7_readTurn_0 5 rfl
theorem dX7_readTurn_11 : decode cX7_readTurn 11 = .ok (.iload_n 1, 1) := dOf oX7_readTurn_0 6 rfl
theorem dX7_readTurn_12 : decode cX7_readTurn 12 = .ok (.bipush 108, 2) := dOf oX7_readTurn_0 7 rfl
theorem dX7_readTurn_14 : decode cX7_readTurn 14 = .ok (.if_icmp .eq 5, 3) := dOf oX7_readTurn_0 8 rfl
theorem dX7_readTurn_17 : decode cX7_readTurn 17 = .ok (.iconst 0, 1) := dOf oX7_readTurn_0 9 rfl
theorem dX7_readTurn_18 : decode cX7_readTurn 18 = .ok (.ireturn, 1) := dOf oX7_readTurn_0 10 rfl
theorem dX7_readTurn_19 : decode cX7_readTurn 19 = .ok (.aload_n 0, 1) := dOf oX7_readTurn_0 11 rfl
theorem dX7_readTurn_20 : decode cX7_readTurn 20 = .ok (.dup, 1) := dOf oX7_readTurn_0 12 rfl
theorem dX7_readTurn_21 : decode cX7_readTurn 21 = .ok (.getfield 27, 3) := dOf oX7_readTurn_0 13 rfl
theorem dX7_readTurn_24 : decode cX7_readTurn 24 = .ok (.iconst 1, 1) := dOf oX7_readTurn_0 14 rfl
theorem dX7_readTurn_25 : decode cX7_readTurn 25 = .ok (.iadd, 1) := dOf oX7_readTurn_0 15 rfl
theorem dX7_readTurn_26 : decode cX7_readTurn 26 = .ok (.putfield 27, 3) := dOf oX7_readTurn_0 16 rfl
theorem dX7_readTurn_29 : decode cX7_readTurn 29 = .ok (.iload_n 1, 1) := dOf oX7_readTurn_0 17 rfl
theorem dX7_readTurn_30 : decode cX7_readTurn 30 = .ok (.bipush 117, 2) := dOf oX7_readTurn_0 18 rfl
theorem dX7_readTurn_32 : decode cX7_readTurn 32 = .ok (.if_icmp .ne 7, 3) := dOf oX7_readTurn_0 19 rfl
theorem dX7_readTurn_35 : decode cX7_readTurn 35 = .ok (.iconst 1, 1) := dOf oX7_readTurn_0 20 rfl
theorem dX7_readTurn_36 : decode cX7_readTurn 36 = .ok (.goto 4, 3) := dOf oX7_readTurn_0 21 rfl
theorem dX7_readTurn_39 : decode cX7_readTurn 39 = .ok (.iconst 2, 1) := dOf oX7_readTurn_0 22 rfl
theorem dX7_readTurn_40 : decode cX7_readTurn 40 = .ok (.ireturn, 1) := dOf oX7_readTurn_0 23 rfl
def eX7_readPlace_0 : List (Nat × Instr × Nat) := [(0, .aload_n 0, 1), (1, .invokevirtual 42, 3), (4, .istore_n 1, 1), (5, .iload_n 1, 1), (6, .bipush 102, 2), (8, .if_icmp .eq 9, 3), (11, .iload_n 1, 1), (12, .bipush 101, 2), (14, .if_icmp .ne 30, 3), (17, .aload_n 0, 1), (18, .dup, 1), (19, .getfield 27, 3), (22, .iconst 1, 1), (23, .iadd, 1), (24, .putfield 27, 3), (27, .aload_n 0, 1), (28, .iload_n 1, 1), (29, .bipush 102, 2), (31, .if_icmp .ne 7, 3), (34, .iconst 0, 1), (35, .goto 5, 3), (38, .bipush 8, 2), (40, .invokevirtual 78, 3), (43, .ireturn, 1), (44, .iload_n 1, 1), (45, .bipush 98, 2), (47, .if_icmp .eq 9, 3), (50, .iload_n 1, 1), (51, .bipush 97, 2), (53, .if_icmp .ne 29, 3), (56, .aload_n 0, 1), (57, .dup, 1), (58, .getfield 27, 3), (61, .iconst 1, 1), (62, .iadd, 1), (63, .putfield 27, 3), (66, .aload_n 0, 1), (67, .iload_n 1, 1), (68, .bipush 98, 2), (70, .if_icmp .ne 7, 3), (73, .iconst 0, 1), (74, .goto 4, 3), (77, .iconst 3, 1), (78, .invokevirtual 82, 3), (81, .ireturn, 1), (82, .iconst (-1), 1), (83, .ireturn, 1)]
theorem oX7_readPlace_0 : okC cX7_readPlace eX7_readPlace_0 = true := by decide +kernel
theorem dX7_readPlace_0 : decode cX7_readPlace 0 = .ok (.aload_n 0, 1) := dOf oX7_readPlace_0 0 rfl
theorem dX7_readPlace_1 : decode cX7_readPlace 1 = .ok (.invokevirtual 42, 3) := dOf oX7_readPlace_0 1 rfl
theorem dX7_readPlace_4 : decode cX7_readPlace 4 = .ok (.istore_n 1, 1) := dOf oX7_readPlace_0 2 rfl
theorem dX7_readPlace_5 : decode cX7_readPlace 5 = .ok (.iload_n 1, 1) := dOf oX7_readPlace_0 3 rfl
theorem dX7_readPlace_6 : decode cX7_readPlace 6 = .ok (.bipush 102, 2) := dOf oX7_readPlace_0 4 rfl
theorem dX7_readPlace_8 : decode cX7_readPlace 8 = .ok (.if_icmp .eq 9, 3) := dOf oX7_readPlace_0 5 rfl
theorem dX7_readPlace_11 : decode cX7_readPlace 11 = .ok (.iload_n 1, 1) := dOf oX7_readPlace_0 6 rfl
theorem dX7_readPlace_12 : decode cX7_readPlace 12 = .ok (.bipush 101, 2) := dOf oX7_readPlace_0 7 rfl
theorem dX7_readPlace_14 : decode cX7_readPlace 14 = .ok (.if_icmp .ne 30, 3) := dOf oX7_readPlace_0 8 rfl
theorem dX7_readPlace_17 : decode cX7_readPlace 17 = .ok (.aload_n 0, 1) := dOf oX7_readPlace_0 9 rfl
theorem dX7_readPlace_18 : decode cX7_readPlace 18 = .ok (.dup, 1) := dOf oX7_readPlace_0 10 rfl
theorem dX7_readPlace_19 : decode cX7_readPlace 19 = .ok (.getfield 27, 3) := dOf oX7_readPlace_0 11 rfl
theorem dX7_readPlace_22 : decode cX7_readPlace 22 = .ok (.iconst 1, 1) := dOf oX7_readPlace_0 12 rfl
theorem dX7_readPlace_23 : decode cX7_readPlace 23 = .ok (.iadd, 1) := dOf oX7_readPlace_0 13 rfl
theorem dX7_readPlace_24 : decode cX7_readPlace 24 = .ok (.putfield 27, 3) := dOf oX7_readPlace_0 14 rfl
theorem dX7_readPlace_27 : decode cX7_readPlace 27 = .ok (.aload_n 0, 1) := dOf oX7_readPlace_0 15 rfl
theorem dX7_readPlace_28 : decode cX7_readPlace 28 = .ok (.iload_n 1, 1) := dOf oX7_readPlace_0 16 rfl
theorem dX7_readPlace_29 : decode cX7_readPlace 29 = .ok (.bipush 102, 2) := dOf oX7_readPlace_0 17 rfl
theorem dX7_readPlace_31 : decode cX7_readPlace 31 = .ok (.if_icmp .ne 7, 3) := dOf oX7_readPlace_0 18 rfl
theorem dX7_readPlace_34 : decode cX7_readPlace 34 = .ok (.iconst 0, 1) := dOf oX7_readPlace_0 19 rfl
theorem dX7_readPlace_35 : decode cX7_readPlace 35 = .ok (.goto 5, 3) := dOf oX7_readPlace_0 20 rfl
theorem dX7_readPlace_38 : decode cX7_readPlace 38 = .ok (.bipush 8, 2) := dOf oX7_readPlace_0 21 rfl
theorem dX7_readPlace_40 : decode cX7_readPlace 40 = .ok (.invokevirtual 78, 3) := dOf oX7_readPlace_0 22 rfl
theorem dX7_readPlace_43 : decode cX7_readPlace 43 = .ok (.ireturn, 1) := dOf oX7_readPlace_0 23 rfl
theorem dX7_readPlace_44 : decode cX7_readPlace 44 = .ok (.iload_n 1, 1) := dOf oX7_readPlace_0 24 rfl
theorem dX7_readPlace_45 : decode cX7_readPlace 45 = .ok (.bipush 98, 2) := dOf oX7_readPlace_0 25 rfl
theorem dX7_readPlace_47 : decode cX7_readPlace 47 = .ok (.if_icmp .eq 9, 3) := dOf oX7_readPlace_0 26 rfl
theorem dX7_readPlace_50 : decode cX7_readPlace 50 = .ok (.iload_n 1, 1) := dOf oX7_readPlace_0 27 rfl
theorem dX7_readPlace_51 : decode cX7_readPlace 51 = .ok (.bipush 97, 2) := dOf oX7_readPlace_0 28 rfl
theorem dX7_readPlace_53 : decode cX7_readPlace 53 = .ok (.if_icmp .ne 29, 3) := dOf oX7_readPlace_0 29 rfl
theorem dX7_readPlace_56 : decode cX7_readPlace 56 = .ok (.aload_n 0, 1) := dOf oX7_readPlace_0 30 rfl
theorem dX7_readPlace_57 : decode cX7_readPlace 57 = .ok (.dup, 1) := dOf oX7_readPlace_0 31 rfl
theorem dX7_readPlace_58 : decode cX7_readPlace 58 = .ok (.getfield 27, 3) := dOf oX7_readPlace_0 32 rfl
theorem dX7_readPlace_61 : decode cX7_readPlace 61 = .ok (.iconst 1, 1) := dOf oX7_readPlace_0 33 rfl
theorem dX7_readPlace_62 : decode cX7_readPlace 62 = .ok (.iadd, 1) := dOf oX7_readPlace_0 34 rfl
theorem dX7_readPlace_63 : decode cX7_readPlace 63 = .ok (.putfield 27, 3) := dOf oX7_readPlace_0 35 rfl
theorem dX7_readPlace_66 : decode cX7_readPlace 66 = .ok (.aload_n 0, 1) := dOf oX7_readPlace_0 36 rfl
theorem dX7_readPlace_67 : decode cX7_readPlace 67 = .ok (.iload_n 1, 1) := dOf oX7_readPlace_0 37 rfl
theorem dX7_readPlace_68 : decode cX7_readPlace 68 = .ok (.bipush 98, 2) := dOf oX7_readPlace_0 38 rfl
theorem dX7_readPlace_70 : decode cX7_readPlace 70 = .ok (.if_icmp .ne 7, 3) := dOf oX7_readPlace_0 39 rfl
theorem dX7_readPlace_73 : decode cX7_readPlace 73 = .ok (.iconst 0, 1) := dOf oX7_readPlace_0 40 rfl
theorem dX7_readPlace_74 : decode cX7_readPlace 74 = .ok (.goto 4, 3) := dOf oX7_readPlace_0 41 rfl
theorem dX7_readPlace_77 : decode cX7_readPlace 77 = .ok (.iconst 3, 1) := dOf oX7_readPlace_0 42 rfl
theorem dX7_readPlace_78 : decode cX7_readPlace 78 = .ok (.invokevirtual 82, 3) := dOf oX7_readPlace_0 43 rfl
theorem dX7_readPlace_81 : decode cX7_readPlace 81 = .ok (.ireturn, 1) := dOf oX7_readPlace_0 44 rfl
theorem dX7_readPlace_82 : decode cX7_readPlace 82 = .ok (.iconst (-1), 1) := dOf oX7_readPlace_0 45 rfl
theorem dX7_readPlace_83 : decode cX7_readPlace 83 = .ok (.ireturn, 1) := dOf oX7_readPlace_0 46 rfl
