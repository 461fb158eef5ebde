theorem dX10_addThing_32 : decode cX10_addThing 32 = .ok (.getfield 80, 3) := by decide +kernel
theorem dX10_addThing_35 : decode cX10_addThing 35 = .ok (.iconst 1, 1) := by decide +kernel
theorem dX10_addThing_36 : decode cX10_addThing 36 = .ok (.iadd, 1) := by decide +kernel
theorem dX10_addThing_37 : decode cX10_addThing 37 = .ok (.putfield 80, 3) := by decide +kernel
theorem dX10_addThing_40 : decode cX10_addThing 40 = .ok (.aload_n 0, 1) := by decide +kernel
theorem dX10_addThing_41 : decode cX10_addThing 41 = .ok (.getfield 80, 3) := by decide +kernel
theorem dX10_addThing_44 : decode cX10_addThing 44 = .ok (.iconst 1, 1) := by decide +kernel
theorem dX10_addThing_45 : decode cX10_addThing 45 = .ok (.isub, 1) := by decide +kernel
theorem dX10_addThing_46 : decode cX10_addThing 46 = .ok (.ireturn, 1) := by decide +kernel
theorem dX10_thing_0 : decode cX10_thing 0 = .ok (.aload_n 0, 1) := by decide +kernel
theorem dX10_thing_1 : decode cX10_thing 1 = .ok (.getfield 96, 3) := by decide +kernel
theorem dX10_thing_4 : decode cX10_thing 4 = .ok (.istore_n 1, 1) := by decide +kernel
theorem dX10_thing_5 : decode cX10_thing 5 = .ok (.aload_n 0, 1) := by decide +kernel
theorem dX10_thing_6 : decode cX10_thing 6 = .ok (.iconst 0, 1) := by decide +kernel
theorem dX10_thing_7 : decode cX10_thing 7 = .ok (.putfield 96, 3) := by decide +kernel
theorem dX10_thing_10 : decode cX10_thing 10 = .ok (.iload_n 1, 1) := by decide +kernel
theorem dX10_thing_11 : decode cX10_thing 11 = .ok (.i2l, 1) := by decide +kernel
theorem dX10_thing_12 : decode cX10_thing 12 = .ok (.lconst 1, 1) := by decide +kernel
theorem dX10_thing_13 : decode cX10_thing 13 = .ok (.ldc2_w 99, 3) := by decide +kernel
theorem dX10_thing_16 : decode cX10_thing 16 = .ok (.invokestatic 84, 3) := by decide +kernel
theorem dX10_thing_19 : decode cX10_thing 19 = .ok (.ifCond .ne 6, 3) := by decide +kernel
theorem dX10_thing_22 : decode cX10_thing 22 = .ok (.bipush (-2), 2) := by decide +kernel
theorem dX10_thing_24 : decode cX10_thing 24 = .ok (.ireturn, 1) := by decide +kernel
theorem dX10_thing_25 : decode cX10_thing 25 = .ok (.aload_n 0, 1) := by decide +kernel
theorem dX10_thing_26 : decode cX10_thing 26 = .ok (.getfield 80, 3) := by decide +kernel
theorem dX10_thing_29 : decode cX10_thing 29 = .ok (.bipush 12, 2) := by decide +kernel
theorem dX10_thing_31 : decode cX10_thing 31 = .ok (.if_icmp .ne 6, 3) := by decide +kernel
theorem dX10_thing_34 : decode cX10_thing 34 = .ok (.bipush (-3), 2) := by decide +kernel
theorem dX10_thing_36 : decode cX10_thing 36 = .ok (.ireturn, 1) := by decide +kernel
theorem dX10_thing_37 : decode cX10_thing 37 = .ok (.iconst 0, 1) := by decide +kernel
theorem dX10_thing_38 : decode cX10_thing 38 = .ok (.istore_n 2, 1) := by decide +kernel
theorem dX10_thing_39 : decode cX10_thing 39 = .ok (.iload_n 2, 1) := by decide +kernel
theorem dX10_thing_40 : decode cX10_thing 40 = .ok (.iload_n 1, 1) := by decide +kernel
theorem dX10_thing_41 : decode cX10_thing 41 = .ok (.if_icmp .ge 29, 3) := by decide +kernel
theorem dX10_thing_44 : decode cX10_thing 44 = .ok (.aload_n 0, 1) := by decide +kernel
theorem dX10_thing_45 : decode cX10_thing 45 = .ok (.getfield 7, 3) := by decide +kernel
theorem dX10_thing_48 : decode cX10_thing 48 = .ok (.bipush 16, 2) := by decide +kernel
theorem dX10_thing_50 : decode cX10_thing 50 = .ok (.aload_n 0, 1) := by decide +kernel
theorem dX10_thing_51 : decode cX10_thing 51 = .ok (.getfield 80, 3) := by decide +kernel
theorem dX10_thing_54 : decode cX10_thing 54 = .ok (.imul, 1) := by decide +kernel
theorem dX10_thing_55 : decode cX10_thing 55 = .ok (.iload_n 2, 1) := by decide +kernel
theorem dX10_thing_56 : decode cX10_thing 56 = .ok (.iadd, 1) := by decide +kernel
theorem dX10_thing_57 : decode cX10_thing 57 = .ok (.aload_n 0, 1) := by decide +kernel
theorem dX10_thing_58 : decode cX10_thing 58 = .ok (.getfield 28, 3) := by decide +kernel
theorem dX10_thing_61 : decode cX10_thing 61 = .ok (.iload_n 2, 1) := by decide +kernel
theorem dX10_thing_62 : decode cX10_thing 62 = .ok (.iaload, 1) := by decide +kernel
theorem dX10_thing_63 : decode cX10_thing 63 = .ok (.iastore, 1) := by decide +kernel
theorem dX10_thing_64 : decode cX10_thing 64 = .ok (.iinc 2 1, 3) := by decide +kernel
theorem dX10_thing_67 : decode cX10_thing 67 = .ok (.goto (-28), 3) := by decide +kernel
theorem dX10_thing_70 : decode cX10_thing 70 = .ok (.aload_n 0, 1) := by decide +kernel
theorem dX10_thing_71 : decode cX10_thing 71 = .ok (.iload_n 1, 1) := by decide +kernel
theorem dX10_thing_72 : decode cX10_thing 72 = .ok (.invokevirtual 101, 3) := by decide +kernel
theorem dX10_thing_75 : decode cX10_thing 75 = .ok (.ireturn, 1) := by decide +kernel
theorem dX10_byteAt_0 : decode cX10_byteAt 0 = .ok (.aload_n 0, 1) := by decide +kernel
theorem dX10_byteAt_1 : decode cX10_byteAt 1 = .ok (.iload_n 1, 1) := by decide +kernel
theorem dX10_byteAt_2 : decode cX10_byteAt 2 = .ok (.invokevirtual 105, 3) := by decide +kernel
theorem dX10_byteAt_5 : decode cX10_byteAt 5 = .ok (.ifCond .eq 23, 3) := by decide +kernel
theorem dX10_byteAt_8 : decode cX10_byteAt 8 = .ok (.iload_n 2, 1) := by decide +kernel
theorem dX10_byteAt_9 : decode cX10_byteAt 9 = .ok (.i2l, 1) := by decide +kernel
theorem dX10_byteAt_10 : decode cX10_byteAt 10 = .ok (.ldc2_w 109, 3) := by decide +kernel
theorem dX10_byteAt_13 : decode cX10_byteAt 13 = .ok (.aload_n 0, 1) := by decide +kernel
theorem dX10_byteAt_14 : decode cX10_byteAt 14 = .ok (.getfield 13, 3) := by decide +kernel
theorem dX10_byteAt_17 : decode cX10_byteAt 17 = .ok (.iload_n 1, 1) := by decide +kernel
theorem dX10_byteAt_18 : decode cX10_byteAt 18 = .ok (.iaload, 1) := by decide +kernel
theorem dX10_byteAt_19 : decode cX10_byteAt 19 = .ok (.iconst 1, 1) := by decide +kernel
theorem dX10_byteAt_20 : decode cX10_byteAt 20 = .ok (.isub, 1) := by decide +kernel
theorem dX10_byteAt_21 : decode cX10_byteAt 21 = .ok (.i2l, 1) := by decide +kernel
theorem dX10_byteAt_22 : decode cX10_byteAt 22 = .ok (.invokestatic 84, 3) := by decide +kernel
theorem dX10_byteAt_25 : decode cX10_byteAt 25 = .ok (.ifCond .ne 5, 3) := by decide +kernel
theorem dX10_byteAt_28 : decode cX10_byteAt 28 = .ok (.iconst (-1), 1) := by decide +kernel
theorem dX10_byteAt_29 : decode cX10_byteAt 29 = .ok (.ireturn, 1) := by decide +kernel
theorem dX10_byteAt_30 : decode cX10_byteAt 30 = .ok (.iload_n 2, 1) := by decide +kernel
theorem dX10_byteAt_31 : decode cX10_byteAt 31 = .ok (.ifCond .ge 12, 3) := by decide +kernel
theorem dX10_byteAt_34 : decode cX10_byteAt 34 = .ok (.aload_n 0, 1) := by decide +kernel
theorem dX10_byteAt_35 : decode cX10_byteAt 35 = .ok (.getfield 13, 3) := by decide +kernel
theorem dX10_byteAt_38 : decode cX10_byteAt 38 = .ok (.iload_n 1, 1) := by decide +kernel
theorem dX10_byteAt_39 : decode cX10_byteAt 39 = .ok (.iaload, 1) := by decide +kernel
theorem dX10_byteAt_40 : decode cX10_byteAt 40 = .ok (.goto 14, 3) := by decide +kernel
theorem dX10_byteAt_43 : decode cX10_byteAt 43 = .ok (.aload_n 0, 1) := by decide +kernel
theorem dX10_byteAt_44 : decode cX10_byteAt 44 = .ok (.getfield 7, 3) := by decide +kernel
theorem dX10_byteAt_47 : decode cX10_byteAt 47 = .ok (.bipush 16, 2) := by decide +kernel
theorem dX10_byteAt_49 : decode cX10_byteAt 49 = .ok (.iload_n 1, 1) := by decide +kernel
theorem dX10_byteAt_50 : decode cX10_byteAt 50 = .ok (.imul, 1) := by decide +kernel
theorem dX10_byteAt_51 : decode cX10_byteAt 51 = .ok (.iload_n 2, 1) := by decide +kernel
theorem dX10_byteAt_52 : decode cX10_byteAt 52 = .ok (.iadd, 1) := by decide +kernel
theorem dX10_byteAt_53 : decode cX10_byteAt 53 = .ok (.iaload, 1) := by decide +kernel
theorem dX10_byteAt_54 : decode cX10_byteAt 54 = .ok (.ireturn, 1) := by decide +kernel
theorem dX10_isDigit_0 : decode cX10_isDigit 0 = .ok (.iload_n 0, 1) := by decide +kernel
theorem dX10_isDigit_1 : decode cX10_isDigit 1 = .ok (.i2l, 1) := by decide +kernel
theorem dX10_isDigit_2 : decode cX10_isDigit 2 = .ok (.ldc2_w 111, 3) := by decide +kernel
theorem dX10_isDigit_5 : decode cX10_isDigit 5 = .ok (.ldc2_w 113, 3) := by decide +kernel
theorem dX10_isDigit_8 : decode cX10_isDigit 8 = .ok (.invokestatic 84, 3) := by decide +kernel
theorem dX10_isDigit_11 : decode cX10_isDigit 11 = .ok (.ireturn, 1) := by decide +kernel
theorem dX10_isCapital_0 : decode cX10_isCapital 0 = .ok (.iload_n 0, 1) := by decide +kernel
theorem dX10_isCapital_1 : decode cX10_isCapital 1 = .ok (.i2l, 1) := by decide +kernel
theorem dX10_isCapital_2 : decode cX10_isCapital 2 = .ok (.ldc2_w 115, 3) := by decide +kernel
theorem dX10_isCapital_5 : decode cX10_isCapital 5 = .ok (.ldc2_w 117, 3) := by decide +kernel
theorem dX10_isCapital_8 : decode cX10_isCapital 8 = .ok (.invokestatic 84, 3) := by decide +kernel
theorem dX10_isCapital_11 : decode cX10_isCapital 11 = .ok (.ireturn, 1) := by decide +kernel
theorem dX10_isSmall_0 : decode cX10_isSmall 0 = .ok (.iload_n 0, 1) := by decide +kernel
theorem dX10_isSmall_1 : decode cX10_isSmall 1 = .ok (.i2l, 1) := by decide +kernel
theorem dX10_isSmall_2 : decode cX10_isSmall 2 = .ok (.ldc2_w 119, 3) := by decide +kernel
theorem dX10_isSmall_5 : decode cX10_isSmall 5 = .ok (.ldc2_w 121, 3) := by decide +kernel
theorem dX10_isSmall_8 : decode cX10_isSmall 8 = .ok (.invokestatic 84, 3) := by decide +kernel
theorem dX10_isSmall_11 : decode cX10_isSmall 11 = .ok (.ireturn, 1) := by decide +kernel
theorem dX10_isSign_0 : decode cX10_isSign 0 = .ok (.iload_n 0, 1) := by decide +kernel
theorem dX10_isSign_1 : decode cX10_isSign 1 = .ok (.invokestatic 123, 3) := by decide +kernel
theorem dX10_isSign_4 : decode cX10_isSign 4 = .ok (.ifCond .ne 21, 3) := by decide +kernel
theorem dX10_isSign_7 : decode cX10_isSign 7 = .ok (.iload_n 0, 1) := by decide +kernel
theorem dX10_isSign_8 : decode cX10_isSign 8 = .ok (.invokestatic 126, 3) := by decide +kernel
theorem dX10_isSign_11 : decode cX10_isSign 11 = .ok (.ifCond .ne 14, 3) := by decide +kernel
theorem dX10_isSign_14 : decode cX10_isSign 14 = .ok (.iload_n 0, 1) := by decide +kernel
theorem dX10_isSign_15 : decode cX10_isSign 15 = .ok (.invokestatic 129, 3) := by decide +kernel
theorem dX10_isSign_18 : decode cX10_isSign 18 = .ok (.ifCond .ne 7, 3) := by decide +kernel
theorem dX10_isSign_21 : decode cX10_isSign 21 = .ok (.iconst 1, 1) := by decide +kernel
theorem dX10_isSign_22 : decode cX10_isSign 22 = .ok (.goto 4, 3) := by decide +kernel
theorem dX10_isSign_25 : decode cX10_isSign 25 = .ok (.iconst 0, 1) := by decide +kernel
theorem dX10_isSign_26 : decode cX10_isSign 26 = .ok (.ireturn, 1) := by decide +kernel
theorem dX10_isOf_0 : decode cX10_isOf 0 = .ok (.iload_n 1, 1) := by decide +kernel
theorem dX10_isOf_1 : decode cX10_isOf 1 = .ok (.ifCond .ne 10, 3) := by decide +kernel
theorem dX10_isOf_4 : decode cX10_isOf 4 = .ok (.iload_n 0, 1) := by decide +kernel
theorem dX10_isOf_5 : decode cX10_isOf 5 = .ok (.invokestatic 123, 3) := by decide +kernel
theorem dX10_isOf_8 : decode cX10_isOf 8 = .ok (.goto 46, 3) := by decide +kernel
theorem dX10_isOf_11 : decode cX10_isOf 11 = .ok (.iload_n 1, 1) := by decide +kernel
theorem dX10_isOf_12 : decode cX10_isOf 12 = .ok (.iconst 1, 1) := by decide +kernel
theorem dX10_isOf_13 : decode cX10_isOf 13 = .ok (.if_icmp .ne 25, 3) := by decide +kernel
theorem dX10_isOf_16 : decode cX10_isOf 16 = .ok (.iload_n 0, 1) := by decide +kernel
theorem dX10_isOf_17 : decode cX10_isOf 17 = .ok (.invokestatic 126, 3) := by decide +kernel
theorem dX10_isOf_20 : decode cX10_isOf 20 = .ok (.ifCond .ne 10, 3) := by decide +kernel
theorem dX10_isOf_23 : decode cX10_isOf 23 = .ok (.iload_n 0, 1) := by decide +kernel
theorem dX10_isOf_24 : decode cX10_isOf 24 = .ok (.invokestatic 129, 3) := by decide +kernel
theorem dX10_isOf_27 : decode cX10_isOf 27 = .ok (.ifCond .eq 7, 3) := by decide +kernel
theorem dX10_isOf_30 : decode cX10_isOf 30 = .ok (.iconst 1, 1) := by decide +kernel
theorem dX10_isOf_31 : decode cX10_isOf 31 = .ok (.goto 23, 3) := by decide +kernel
theorem dX10_isOf_34 : decode cX10_isOf 34 = .ok (.iconst 0, 1) := by decide +kernel
theorem dX10_isOf_35 : decode cX10_isOf 35 = .ok (.goto 19, 3) := by decide +kernel
theorem dX10_isOf_38 : decode cX10_isOf 38 = .ok (.iload_n 1, 1) := by decide +kernel
theorem dX10_isOf_39 : decode cX10_isOf 39 = .ok (.iconst 2, 1) := by decide +kernel
theorem dX10_isOf_40 : decode cX10_isOf 40 = .ok (.if_icmp .ne 10, 3) := by decide +kernel
theorem dX10_isOf_43 : decode cX10_isOf 43 = .ok (.iload_n 0, 1) := by decide +kernel
theorem dX10_isOf_44 : decode cX10_isOf 44 = .ok (.invokestatic 126, 3) := by decide +kernel
theorem dX10_isOf_47 : decode cX10_isOf 47 = .ok (.goto 7, 3) := by decide +kernel
theorem dX10_isOf_50 : decode cX10_isOf 50 = .ok (.iload_n 0, 1) := by decide +kernel
theorem dX10_isOf_51 : decode cX10_isOf 51 = .ok (.invokestatic 132, 3) := by decide +kernel
theorem dX10_isOf_54 : decode cX10_isOf 54 = .ok (.ireturn, 1) := by decide +kernel
theorem dX10_runOf_0 : decode cX10_runOf 0 = .ok (.bipush (-4), 2) := by decide +kernel
theorem dX10_runOf_2 : decode cX10_runOf 2 = .ok (.istore 5, 2) := by decide +kernel
theorem dX10_runOf_4 : decode cX10_runOf 4 = .ok (.iconst 0, 1) := by decide +kernel
theorem dX10_runOf_5 : decode cX10_runOf 5 = .ok (.istore 6, 2) := by decide +kernel
theorem dX10_runOf_7 : decode cX10_runOf 7 = .ok (.iconst 0, 1) := by decide +kernel
theorem dX10_runOf_8 : decode cX10_runOf 8 = .ok (.istore 7, 2) := by decide +kernel
theorem dX10_runOf_10 : decode cX10_runOf 10 = .ok (.iload 7, 2) := by decide +kernel
theorem dX10_runOf_12 : decode cX10_runOf 12 = .ok (.aload_n 0, 1) := by decide +kernel
theorem dX10_runOf_13 : decode cX10_runOf 13 = .ok (.getfield 13, 3) := by decide +kernel
theorem dX10_runOf_16 : decode cX10_runOf 16 = .ok (.iload_n 1, 1) := by decide +kernel
theorem dX10_runOf_17 : decode cX10_runOf 17 = .ok (.iaload, 1) := by decide +kernel
theorem dX10_runOf_18 : decode cX10_runOf 18 = .ok (.if_icmp .ge 116, 3) := by decide +kernel
theorem dX10_runOf_21 : decode cX10_runOf 21 = .ok (.iload 7, 2) := by decide +kernel
theorem dX10_runOf_23 : decode cX10_runOf 23 = .ok (.istore 8, 2) := by decide +kernel
theorem dX10_runOf_25 : decode cX10_runOf 25 = .ok (.aload_n 0, 1) := by decide +kernel
theorem dX10_runOf_26 : decode cX10_runOf 26 = .ok (.getfield 7, 3) := by decide +kernel
theorem dX10_runOf_29 : decode cX10_runOf 29 = .ok (.bipush 16, 2) := by decide +kernel
theorem dX10_runOf_31 : decode cX10_runOf 31 = .ok (.iload_n 1, 1) := by decide +kernel
theorem dX10_runOf_32 : decode cX10_runOf 32 = .ok (.imul, 1) := by decide +kernel
theorem dX10_runOf_33 : decode cX10_runOf 33 = .ok (.iload 7, 2) := by decide +kernel
theorem dX10_runOf_35 : decode cX10_runOf 35 = .ok (.iadd, 1) := by decide +kernel
theorem dX10_runOf_36 : decode cX10_runOf 36 = .ok (.iaload, 1) := by decide +kernel
theorem dX10_runOf_37 : decode cX10_runOf 37 = .ok (.iload_n 2, 1) := by decide +kernel
theorem dX10_runOf_38 : decode cX10_runOf 38 = .ok (.invokestatic 135, 3) := by decide +kernel
theorem dX10_runOf_41 : decode cX10_runOf 41 = .ok (.istore 9, 2) := by decide +kernel
theorem dX10_runOf_43 : decode cX10_runOf 43 = .ok (.iinc 7 1, 3) := by decide +kernel
theorem dX10_runOf_46 : decode cX10_runOf 46 = .ok (.iload 9, 2) := by decide +kernel
theorem dX10_runOf_48 : decode cX10_runOf 48 = .ok (.ifCond .eq 44, 3) := by decide +kernel
theorem dX10_runOf_51 : decode cX10_runOf 51 = .ok (.iload_n 2, 1) := by decide +kernel
theorem dX10_runOf_52 : decode cX10_runOf 52 = .ok (.iconst 3, 1) := by decide +kernel
theorem dX10_runOf_53 : decode cX10_runOf 53 = .ok (.if_icmp .eq 39, 3) := by decide +kernel
theorem dX10_runOf_56 : decode cX10_runOf 56 = .ok (.iload 7, 2) := by decide +kernel
theorem dX10_runOf_58 : decode cX10_runOf 58 = .ok (.aload_n 0, 1) := by decide +kernel
theorem dX10_runOf_59 : decode cX10_runOf 59 = .ok (.getfield 13, 3) := by decide +kernel
theorem dX10_runOf_62 : decode cX10_runOf 62 = .ok (.iload_n 1, 1) := by decide +kernel
theorem dX10_runOf_63 : decode cX10_runOf 63 = .ok (.iaload, 1) := by decide +kernel
theorem dX10_runOf_64 : decode cX10_runOf 64 = .ok (.if_icmp .ge 28, 3) := by decide +kernel
theorem dX10_runOf_67 : decode cX10_runOf 67 = .ok (.aload_n 0, 1) := by decide +kernel
theorem dX10_runOf_68 : decode cX10_runOf 68 = .ok (.getfield 7, 3) := by decide +kernel
theorem dX10_runOf_71 : decode cX10_runOf 71 = .ok (.bipush 16, 2) := by decide +kernel
theorem dX10_runOf_73 : decode cX10_runOf 73 = .ok (.iload_n 1, 1) := by decide +kernel
theorem dX10_runOf_74 : decode cX10_runOf 74 = .ok (.imul, 1) := by decide +kernel
theorem dX10_runOf_75 : decode cX10_runOf 75 = .ok (.iload 7, 2) := by decide +kernel
theorem dX10_runOf_77 : decode cX10_runOf 77 = .ok (.iadd, 1) := by decide +kernel
theorem dX10_runOf_78 : decode cX10_runOf 78 = .ok (.iaload, 1) := by decide +kernel
theorem dX10_runOf_79 : decode cX10_runOf 79 = .ok (.iload_n 2, 1) := by decide +kernel
theorem dX10_runOf_80 : decode cX10_runOf 80 = .ok (.invokestatic 135, 3) := by decide +kernel
theorem dX10_runOf_83 : decode cX10_runOf 83 = .ok (.ifCond .eq 9, 3) := by decide +kernel
theorem dX10_runOf_86 : decode cX10_runOf 86 = .ok (.iinc 7 1, 3) := by decide +kernel
theorem dX10_runOf_89 : decode cX10_runOf 89 = .ok (.goto (-43), 3) := by decide +kernel
theorem dX10_runOf_92 : decode cX10_runOf 92 = .ok (.iload 9, 2) := by decide +kernel
theorem dX10_runOf_94 : decode cX10_runOf 94 = .ok (.ifCond .eq 37, 3) := by decide +kernel
theorem dX10_runOf_97 : decode cX10_runOf 97 = .ok (.iload 4, 2) := by decide +kernel
theorem dX10_runOf_99 : decode cX10_runOf 99 = .ok (.iconst 2, 1) := by decide +kernel
theorem dX10_runOf_100 : decode cX10_runOf 100 = .ok (.if_icmp .eq 10, 3) := by decide +kernel
theorem dX10_runOf_103 : decode cX10_runOf 103 = .ok (.iload 4, 2) := by decide +kernel
theorem dX10_runOf_105 : decode cX10_runOf 105 = .ok (.iload 6, 2) := by decide +kernel
theorem dX10_runOf_107 : decode cX10_runOf 107 = .ok (.if_icmp .ne 17, 3) := by decide +kernel
theorem dX10_runOf_110 : decode cX10_runOf 110 = .ok (.iload_n 3, 1) := by decide +kernel
theorem dX10_runOf_111 : decode cX10_runOf 111 = .ok (.ifCond .ne 8, 3) := by decide +kernel
theorem dX10_runOf_114 : decode cX10_runOf 114 = .ok (.iload 8, 2) := by decide +kernel
theorem dX10_runOf_116 : decode cX10_runOf 116 = .ok (.goto 10, 3) := by decide +kernel
theorem dX10_runOf_119 : decode cX10_runOf 119 = .ok (.iload 7, 2) := by decide +kernel
theorem dX10_runOf_121 : decode cX10_runOf 121 = .ok (.goto 5, 3) := by decide +kernel
theorem dX10_runOf_124 : decode cX10_runOf 124 = .ok (.iload 5, 2) := by decide +kernel
theorem dX10_runOf_126 : decode cX10_runOf 126 = .ok (.istore 5, 2) := by decide +kernel
theorem dX10_runOf_128 : decode cX10_runOf 128 = .ok (.iinc 6 1, 3) := by decide +kernel
theorem dX10_runOf_131 : decode cX10_runOf 131 = .ok (.goto (-121), 3) := by decide +kernel
theorem dX10_runOf_134 : decode cX10_runOf 134 = .ok (.iload 5, 2) := by decide +kernel
theorem dX10_runOf_136 : decode cX10_runOf 136 = .ok (.ireturn, 1) := by decide +kernel
theorem dX10_placeOf_0 : decode cX10_placeOf 0 = .ok (.iload_n 2, 1) := by decide +kernel
theorem dX10_placeOf_1 : decode cX10_placeOf 1 = .ok (.bipush 16, 2) := by decide +kernel
theorem dX10_placeOf_3 : decode cX10_placeOf 3 = .ok (.if_icmp .ge 48, 3) := by decide +kernel
theorem dX10_placeOf_6 : decode cX10_placeOf 6 = .ok (.iload_n 2, 1) := by decide +kernel
theorem dX10_placeOf_7 : decode cX10_placeOf 7 = .ok (.bipush 8, 2) := by decide +kernel
theorem dX10_placeOf_9 : decode cX10_placeOf 9 = .ok (.if_icmp .ge 7, 3) := by decide +kernel
theorem dX10_placeOf_12 : decode cX10_placeOf 12 = .ok (.iload_n 2, 1) := by decide +kernel
theorem dX10_placeOf_13 : decode cX10_placeOf 13 = .ok (.goto 14, 3) := by decide +kernel
theorem dX10_placeOf_16 : decode cX10_placeOf 16 = .ok (.aload_n 0, 1) := by decide +kernel
theorem dX10_placeOf_17 : decode cX10_placeOf 17 = .ok (.getfield 13, 3) := by decide +kernel
theorem dX10_placeOf_20 : decode cX10_placeOf 20 = .ok (.iload_n 1, 1) := by decide +kernel
theorem dX10_placeOf_21 : decode cX10_placeOf 21 = .ok (.iaload, 1) := by decide +kernel
theorem dX10_placeOf_22 : decode cX10_placeOf 22 = .ok (.iload_n 2, 1) := by decide +kernel
theorem dX10_placeOf_23 : decode cX10_placeOf 23 = .ok (.bipush 8, 2) := by decide +kernel
theorem dX10_placeOf_25 : decode cX10_placeOf 25 = .ok (.isub, 1) := by decide +kernel
theorem dX10_placeOf_26 : decode cX10_placeOf 26 = .ok (.isub, 1) := by decide +kernel
theorem dX10_placeOf_27 : decode cX10_placeOf 27 = .ok (.istore_n 3, 1) := by decide +kernel
theorem dX10_placeOf_28 : decode cX10_placeOf 28 = .ok (.iload_n 3, 1) := by decide +kernel
theorem dX10_placeOf_29 : decode cX10_placeOf 29 = .ok (.i2l, 1) := by decide +kernel
theorem dX10_placeOf_30 : decode cX10_placeOf 30 = .ok (.lconst 0, 1) := by decide +kernel
theorem dX10_placeOf_31 : decode cX10_placeOf 31 = .ok (.aload_n 0, 1) := by decide +kernel
theorem dX10_placeOf_32 : decode cX10_placeOf 32 = .ok (.getfield 13, 3) := by decide +kernel
theorem dX10_placeOf_35 : decode cX10_placeOf 35 = .ok (.iload_n 1, 1) := by decide +kernel
theorem dX10_placeOf_36 : decode cX10_placeOf 36 = .ok (.iaload, 1) := by decide +kernel
theorem dX10_placeOf_37 : decode cX10_placeOf 37 = .ok (.i2l, 1) := by decide +kernel
theorem dX10_placeOf_38 : decode cX10_placeOf 38 = .ok (.invokestatic 84, 3) := by decide +kernel
theorem dX10_placeOf_41 : decode cX10_placeOf 41 = .ok (.ifCond .eq 7, 3) := by decide +kernel
theorem dX10_placeOf_44 : decode cX10_placeOf 44 = .ok (.iload_n 3, 1) := by decide +kernel
theorem dX10_placeOf_45 : decode cX10_placeOf 45 = .ok (.goto 5, 3) := by decide +kernel
theorem dX10_placeOf_48 : decode cX10_placeOf 48 = .ok (.bipush (-4), 2) := by decide +kernel
theorem dX10_placeOf_50 : decode cX10_placeOf 50 = .ok (.ireturn, 1) := by decide +kernel
theorem dX10_placeOf_51 : decode cX10_placeOf 51 = .ok (.iload_n 2, 1) := by decide +kernel
theorem dX10_placeOf_52 : decode cX10_placeOf 52 = .ok (.bipush 16, 2) := by decide +kernel
theorem dX10_placeOf_54 : decode cX10_placeOf 54 = .ok (.isub, 1) := by decide +kernel
theorem dX10_placeOf_55 : decode cX10_placeOf 55 = .ok (.istore_n 3, 1) := by decide +kernel
theorem dX10_placeOf_56 : decode cX10_placeOf 56 = .ok (.aload_n 0, 1) := by decide +kernel
theorem dX10_placeOf_57 : decode cX10_placeOf 57 = .ok (.iload_n 1, 1) := by decide +kernel
theorem dX10_placeOf_58 : decode cX10_placeOf 58 = .ok (.iload_n 3, 1) := by decide +kernel
theorem dX10_placeOf_59 : decode cX10_placeOf 59 = .ok (.bipush 6, 2) := by decide +kernel
theorem dX10_placeOf_61 : decode cX10_placeOf 61 = .ok (.idiv, 1) := by decide +kernel
theorem dX10_placeOf_62 : decode cX10_placeOf 62 = .ok (.iload_n 3, 1) := by decide +kernel
theorem dX10_placeOf_63 : decode cX10_placeOf 63 = .ok (.iconst 3, 1) := by decide +kernel
theorem dX10_placeOf_64 : decode cX10_placeOf 64 = .ok (.idiv, 1) := by decide +kernel
theorem dX10_placeOf_65 : decode cX10_placeOf 65 = .ok (.iconst 2, 1) := by decide +kernel
theorem dX10_placeOf_66 : decode cX10_placeOf 66 = .ok (.irem, 1) := by decide +kernel
theorem dX10_placeOf_67 : decode cX10_placeOf 67 = .ok (.iload_n 3, 1) := by decide +kernel
theorem dX10_placeOf_68 : decode cX10_placeOf 68 = .ok (.iconst 3, 1) := by decide +kernel
theorem dX10_placeOf_69 : decode cX10_placeOf 69 = .ok (.irem, 1) := by decide +kernel
theorem dX10_placeOf_70 : decode cX10_placeOf 70 = .ok (.invokevirtual 139, 3) := by decide +kernel
theorem dX10_placeOf_73 : decode cX10_placeOf 73 = .ok (.ireturn, 1) := by decide +kernel
theorem dX10_place_0 : decode cX10_place 0 = .ok (.aload_n 0, 1) := by decide +kernel
theorem dX10_place_1 : decode cX10_place 1 = .ok (.iload_n 1, 1) := by decide +kernel
theorem dX10_place_2 : decode cX10_place 2 = .ok (.invokevirtual 105, 3) := by decide +kernel
theorem dX10_place_5 : decode cX10_place 5 = .ok (.ifCond .eq 24, 3) := by decide +kernel
theorem dX10_place_8 : decode cX10_place 8 = .ok (.iload_n 2, 1) := by decide +kernel
theorem dX10_place_9 : decode cX10_place 9 = .ok (.i2l, 1) := by decide +kernel
theorem dX10_place_10 : decode cX10_place 10 = .ok (.lconst 0, 1) := by decide +kernel
theorem dX10_place_11 : decode cX10_place 11 = .ok (.ldc2_w 143, 3) := by decide +kernel
theorem dX10_place_14 : decode cX10_place 14 = .ok (.invokestatic 84, 3) := by decide +kernel
theorem dX10_place_17 : decode cX10_place 17 = .ok (.ifCond .eq 12, 3) := by decide +kernel
theorem dX10_place_20 : decode cX10_place 20 = .ok (.aload_n 0, 1) := by decide +kernel
theorem dX10_place_21 : decode cX10_place 21 = .ok (.iload_n 1, 1) := by decide +kernel
theorem dX10_place_22 : decode cX10_place 22 = .ok (.iload_n 2, 1) := by decide +kernel
theorem dX10_place_23 : decode cX10_place 23 = .ok (.invokevirtual 145, 3) := by decide +kernel
theorem dX10_place_26 : decode cX10_place 26 = .ok (.goto 4, 3) := by decide +kernel
theorem dX10_place_29 : decode cX10_place 29 = .ok (.iconst (-1), 1) := by decide +kernel
theorem dX10_place_30 : decode cX10_place 30 = .ok (.ireturn, 1) := by decide +kernel
theorem dX10_turned_0 : decode cX10_turned 0 = .ok (.iload_n 1, 1) := by decide +kernel
theorem dX10_turned_1 : decode cX10_turned 1 = .ok (.iconst 1, 1) := by decide +kernel
theorem dX10_turned_2 : decode cX10_turned 2 = .ok (.if_icmp .ne 17, 3) := by decide +kernel
theorem dX10_turned_5 : decode cX10_turned 5 = .ok (.iload_n 0, 1) := by decide +kernel
theorem dX10_turned_6 : decode cX10_turned 6 = .ok (.invokestatic 129, 3) := by decide +kernel
theorem dX10_turned_9 : decode cX10_turned 9 = .ok (.ifCond .eq 10, 3) := by decide +kernel
theorem dX10_turned_12 : decode cX10_turned 12 = .ok (.iload_n 0, 1) := by decide +kernel
theorem dX10_turned_13 : decode cX10_turned 13 = .ok (.bipush 32, 2) := by decide +kernel
theorem dX10_turned_15 : decode cX10_turned 15 = .ok (.isub, 1) := by decide +kernel
theorem dX10_turned_16 : decode cX10_turned 16 = .ok (.goto 23, 3) := by decide +kernel
theorem dX10_turned_19 : decode cX10_turned 19 = .ok (.iload_n 1, 1) := by decide +kernel
theorem dX10_turned_20 : decode cX10_turned 20 = .ok (.iconst 2, 1) := by decide +kernel
theorem dX10_turned_21 : decode cX10_turned 21 = .ok (.if_icmp .ne 17, 3) := by decide +kernel
theorem dX10_turned_24 : decode cX10_turned 24 = .ok (.iload_n 0, 1) := by decide +kernel
theorem dX10_turned_25 : decode cX10_turned 25 = .ok (.invokestatic 126, 3) := by decide +kernel
theorem dX10_turned_28 : decode cX10_turned 28 = .ok (.ifCond .eq 10, 3) := by decide +kernel
theorem dX10_turned_31 : decode cX10_turned 31 = .ok (.iload_n 0, 1) := by decide +kernel
theorem dX10_turned_32 : decode cX10_turned 32 = .ok (.bipush 32, 2) := by decide +kernel
theorem dX10_turned_34 : decode cX10_turned 34 = .ok (.iadd, 1) := by decide +kernel
theorem dX10_turned_35 : decode cX10_turned 35 = .ok (.goto 4, 3) := by decide +kernel
theorem dX10_turned_38 : decode cX10_turned 38 = .ok (.iload_n 0, 1) := by decide +kernel
theorem dX10_turned_39 : decode cX10_turned 39 = .ok (.ireturn, 1) := by decide +kernel
theorem dX10_makePiece_0 : decode cX10_makePiece 0 = .ok (.iload_n 2, 1) := by decide +kernel
theorem dX10_makePiece_1 : decode cX10_makePiece 1 = .ok (.ldc 149, 2) := by decide +kernel
theorem dX10_makePiece_3 : decode cX10_makePiece 3 = .ok (.if_icmp .lt 51, 3) := by decide +kernel
theorem dX10_makePiece_6 : decode cX10_makePiece 6 = .ok (.iload_n 2, 1) := by decide +kernel
theorem dX10_makePiece_7 : decode cX10_makePiece 7 = .ok (.ldc 149, 2) := by decide +kernel
theorem dX10_makePiece_9 : decode cX10_makePiece 9 = .ok (.idiv, 1) := by decide +kernel
theorem dX10_makePiece_10 : decode cX10_makePiece 10 = .ok (.iconst 1, 1) := by decide +kernel
theorem dX10_makePiece_11 : decode cX10_makePiece 11 = .ok (.isub, 1) := by decide +kernel
theorem dX10_makePiece_12 : decode cX10_makePiece 12 = .ok (.istore_n 3, 1) := by decide +kernel
theorem dX10_makePiece_13 : decode cX10_makePiece 13 = .ok (.iload_n 3, 1) := by decide +kernel
theorem dX10_makePiece_14 : decode cX10_makePiece 14 = .ok (.ifCond .lt 38, 3) := by decide +kernel
theorem dX10_makePiece_17 : decode cX10_makePiece 17 = .ok (.aload_n 0, 1) := by decide +kernel
theorem dX10_makePiece_18 : decode cX10_makePiece 18 = .ok (.getfield 31, 3) := by decide +kernel
theorem dX10_makePiece_21 : decode cX10_makePiece 21 = .ok (.aload_n 0, 1) := by decide +kernel
theorem dX10_makePiece_22 : decode cX10_makePiece 22 = .ok (.getfield 150, 3) := by decide +kernel
theorem dX10_makePiece_25 : decode cX10_makePiece 25 = .ok (.iload_n 2, 1) := by decide +kernel
theorem dX10_makePiece_26 : decode cX10_makePiece 26 = .ok (.bipush 8, 2) := by decide +kernel
theorem dX10_makePiece_28 : decode cX10_makePiece 28 = .ok (.iload_n 3, 1) := by decide +kernel
theorem dX10_makePiece_29 : decode cX10_makePiece 29 = .ok (.imul, 1) := by decide +kernel
theorem dX10_makePiece_30 : decode cX10_makePiece 30 = .ok (.ishr, 1) := by decide +kernel
theorem dX10_makePiece_31 : decode cX10_makePiece 31 = .ok (.sipush 255, 3) := by decide +kernel
theorem dX10_makePiece_34 : decode cX10_makePiece 34 = .ok (.iand, 1) := by decide +kernel
theorem dX10_makePiece_35 : decode cX10_makePiece 35 = .ok (.iastore, 1) := by decide +kernel
theorem dX10_makePiece_36 : decode cX10_makePiece 36 = .ok (.aload_n 0, 1) := by decide +kernel
theorem dX10_makePiece_37 : decode cX10_makePiece 37 = .ok (.dup, 1) := by decide +kernel
theorem dX10_makePiece_38 : decode cX10_makePiece 38 = .ok (.getfield 150, 3) := by decide +kernel
theorem dX10_makePiece_41 : decode cX10_makePiece 41 = .ok (.iconst 1, 1) := by decide +kernel
theorem dX10_makePiece_42 : decode cX10_makePiece 42 = .ok (.iadd, 1) := by decide +kernel
theorem dX10_makePiece_43 : decode cX10_makePiece 43 = .ok (.putfield 150, 3) := by decide +kernel
theorem dX10_makePiece_46 : decode cX10_makePiece 46 = .ok (.iinc 3 (-1), 3) := by decide +kernel
theorem dX10_makePiece_49 : decode cX10_makePiece 49 = .ok (.goto (-36), 3) := by decide +kernel
theorem dX10_makePiece_52 : decode cX10_makePiece 52 = .ok (.iconst 1, 1) := by decide +kernel
theorem dX10_makePiece_53 : decode cX10_makePiece 53 = .ok (.ireturn, 1) := by decide +kernel
theorem dX10_makePiece_54 : decode cX10_makePiece 54 = .ok (.aload_n 0, 1) := by decide +kernel
theorem dX10_makePiece_55 : decode cX10_makePiece 55 = .ok (.iload_n 1, 1) := by decide +kernel
theorem dX10_makePiece_56 : decode cX10_makePiece 56 = .ok (.iload_n 2, 1) := by decide +kernel
theorem dX10_makePiece_57 : decode cX10_makePiece 57 = .ok (.bipush 120, 2) := by decide +kernel
theorem dX10_makePiece_59 : decode cX10_makePiece 59 = .ok (.idiv, 1) := by decide +kernel
theorem dX10_makePiece_60 : decode cX10_makePiece 60 = .ok (.invokevirtual 145, 3) := by decide +kernel
theorem dX10_makePiece_63 : decode cX10_makePiece 63 = .ok (.istore_n 3, 1) := by decide +kernel
theorem dX10_makePiece_64 : decode cX10_makePiece 64 = .ok (.aload_n 0, 1) := by decide +kernel
theorem dX10_makePiece_65 : decode cX10_makePiece 65 = .ok (.iload_n 1, 1) := by decide +kernel
theorem dX10_makePiece_66 : decode cX10_makePiece 66 = .ok (.iload_n 2, 1) := by decide +kernel
theorem dX10_makePiece_67 : decode cX10_makePiece 67 = .ok (.iconst 3, 1) := by decide +kernel
theorem dX10_makePiece_68 : decode cX10_makePiece 68 = .ok (.idiv, 1) := by decide +kernel
theorem dX10_makePiece_69 : decode cX10_makePiece 69 = .ok (.bipush 40, 2) := by decide +kernel
theorem dX10_makePiece_71 : decode cX10_makePiece 71 = .ok (.irem, 1) := by decide +kernel
theorem dX10_makePiece_72 : decode cX10_makePiece 72 = .ok (.invokevirtual 145, 3) := by decide +kernel
theorem dX10_makePiece_75 : decode cX10_makePiece 75 = .ok (.istore 4, 2) := by decide +kernel
theorem dX10_makePiece_77 : decode cX10_makePiece 77 = .ok (.iload_n 3, 1) := by decide +kernel
theorem dX10_makePiece_78 : decode cX10_makePiece 78 = .ok (.ifCond .lt 9, 3) := by decide +kernel
theorem dX10_makePiece_81 : decode cX10_makePiece 81 = .ok (.iload 4, 2) := by decide +kernel
theorem dX10_makePiece_83 : decode cX10_makePiece 83 = .ok (.iload_n 3, 1) := by decide +kernel
theorem dX10_makePiece_84 : decode cX10_makePiece 84 = .ok (.if_icmp .gt 5, 3) := by decide +kernel
theorem dX10_makePiece_87 : decode cX10_makePiece 87 = .ok (.iconst 0, 1) := by decide +kernel
theorem dX10_makePiece_88 : decode cX10_makePiece 88 = .ok (.ireturn, 1) := by decide +kernel
theorem dX10_makePiece_89 : decode cX10_makePiece 89 = .ok (.iload_n 3, 1) := by decide +kernel
theorem dX10_makePiece_90 : decode cX10_makePiece 90 = .ok (.istore 5, 2) := by decide +kernel
theorem dX10_makePiece_92 : decode cX10_makePiece 92 = .ok (.iload 5, 2) := by decide +kernel
theorem dX10_makePiece_94 : decode cX10_makePiece 94 = .ok (.iload 4, 2) := by decide +kernel
theorem dX10_makePiece_96 : decode cX10_makePiece 96 = .ok (.if_icmp .ge 46, 3) := by decide +kernel
theorem dX10_makePiece_99 : decode cX10_makePiece 99 = .ok (.aload_n 0, 1) := by decide +kernel
theorem dX10_makePiece_100 : decode cX10_makePiece 100 = .ok (.getfield 31, 3) := by decide +kernel
theorem dX10_makePiece_103 : decode cX10_makePiece 103 = .ok (.aload_n 0, 1) := by decide +kernel
theorem dX10_makePiece_104 : decode cX10_makePiece 104 = .ok (.getfield 150, 3) := by decide +kernel
theorem dX10_makePiece_107 : decode cX10_makePiece 107 = .ok (.aload_n 0, 1) := by decide +kernel
theorem dX10_makePiece_108 : decode cX10_makePiece 108 = .ok (.getfield 7, 3) := by decide +kernel
theorem dX10_makePiece_111 : decode cX10_makePiece 111 = .ok (.bipush 16, 2) := by decide +kernel
theorem dX10_makePiece_113 : decode cX10_makePiece 113 = .ok (.iload_n 1, 1) := by decide +kernel
theorem dX10_makePiece_114 : decode cX10_makePiece 114 = .ok (.imul, 1) := by decide +kernel
theorem dX10_makePiece_115 : decode cX10_makePiece 115 = .ok (.iload 5, 2) := by decide +kernel
theorem dX10_makePiece_117 : decode cX10_makePiece 117 = .ok (.iadd, 1) := by decide +kernel
theorem dX10_makePiece_118 : decode cX10_makePiece 118 = .ok (.iaload, 1) := by decide +kernel
theorem dX10_makePiece_119 : decode cX10_makePiece 119 = .ok (.iload_n 2, 1) := by decide +kernel
theorem dX10_makePiece_120 : decode cX10_makePiece 120 = .ok (.iconst 3, 1) := by decide +kernel
theorem dX10_makePiece_121 : decode cX10_makePiece 121 = .ok (.irem, 1) := by decide +kernel
theorem dX10_makePiece_122 : decode cX10_makePiece 122 = .ok (.invokestatic 153, 3) := by decide +kernel
theorem dX10_makePiece_125 : decode cX10_makePiece 125 = .ok (.iastore, 1) := by decide +kernel
theorem dX10_makePiece_126 : decode cX10_makePiece 126 = .ok (.aload_n 0, 1) := by decide +kernel
theorem dX10_makePiece_127 : decode cX10_makePiece 127 = .ok (.dup, 1) := by decide +kernel
theorem dX10_makePiece_128 : decode cX10_makePiece 128 = .ok (.getfield 150, 3) := by decide +kernel
theorem dX10_makePiece_131 : decode cX10_makePiece 131 = .ok (.iconst 1, 1) := by decide +kernel
theorem dX10_makePiece_132 : decode cX10_makePiece 132 = .ok (.iadd, 1) := by decide +kernel
theorem dX10_makePiece_133 : decode cX10_makePiece 133 = .ok (.putfield 150, 3) := by decide +kernel
theorem dX10_makePiece_136 : decode cX10_makePiece 136 = .ok (.iinc 5 1, 3) := by decide +kernel
theorem dX10_makePiece_139 : decode cX10_makePiece 139 = .ok (.goto (-47), 3) := by decide +kernel
theorem dX10_makePiece_142 : decode cX10_makePiece 142 = .ok (.iconst 1, 1) := by decide +kernel
theorem dX10_makePiece_143 : decode cX10_makePiece 143 = .ok (.ireturn, 1) := by decide +kernel
theorem dX10_byteOf_0 : decode cX10_byteOf 0 = .ok (.iload_n 1, 1) := by decide +kernel
theorem dX10_byteOf_1 : decode cX10_byteOf 1 = .ok (.ifCond .ge 10, 3) := by decide +kernel
theorem dX10_byteOf_4 : decode cX10_byteOf 4 = .ok (.aload_n 0, 1) := by decide +kernel
theorem dX10_byteOf_5 : decode cX10_byteOf 5 = .ok (.getfield 150, 3) := by decide +kernel
theorem dX10_byteOf_8 : decode cX10_byteOf 8 = .ok (.goto 21, 3) := by decide +kernel
theorem dX10_byteOf_11 : decode cX10_byteOf 11 = .ok (.iload_n 1, 1) := by decide +kernel
theorem dX10_byteOf_12 : decode cX10_byteOf 12 = .ok (.aload_n 0, 1) := by decide +kernel
theorem dX10_byteOf_13 : decode cX10_byteOf 13 = .ok (.getfield 150, 3) := by decide +kernel
theorem dX10_byteOf_16 : decode cX10_byteOf 16 = .ok (.if_icmp .ge 12, 3) := by decide +kernel
theorem dX10_byteOf_19 : decode cX10_byteOf 19 = .ok (.aload_n 0, 1) := by decide +kernel
theorem dX10_byteOf_20 : decode cX10_byteOf 20 = .ok (.getfield 31, 3) := by decide +kernel
theorem dX10_byteOf_23 : decode cX10_byteOf 23 = .ok (.iload_n 1, 1) := by decide +kernel
theorem dX10_byteOf_24 : decode cX10_byteOf 24 = .ok (.iaload, 1) := by decide +kernel
theorem dX10_byteOf_25 : decode cX10_byteOf 25 = .ok (.goto 4, 3) := by decide +kernel
theorem dX10_byteOf_28 : decode cX10_byteOf 28 = .ok (.iconst (-1), 1) := by decide +kernel
theorem dX10_byteOf_29 : decode cX10_byteOf 29 = .ok (.ireturn, 1) := by decide +kernel
theorem dX10_made_0 : decode cX10_made 0 = .ok (.aload_n 0, 1) := by decide +kernel
theorem dX10_made_1 : decode cX10_made 1 = .ok (.iload_n 1, 1) := by decide +kernel
theorem dX10_made_2 : decode cX10_made 2 = .ok (.invokevirtual 105, 3) := by decide +kernel
theorem dX10_made_5 : decode cX10_made 5 = .ok (.ifCond .eq 20, 3) := by decide +kernel
theorem dX10_made_8 : decode cX10_made 8 = .ok (.iload_n 2, 1) := by decide +kernel
theorem dX10_made_9 : decode cX10_made 9 = .ok (.i2l, 1) := by decide +kernel
theorem dX10_made_10 : decode cX10_made 10 = .ok (.lconst 0, 1) := by decide +kernel
theorem dX10_made_11 : decode cX10_made 11 = .ok (.ldc2_w 156, 3) := by decide +kernel
theorem dX10_made_14 : decode cX10_made 14 = .ok (.invokestatic 84, 3) := by decide +kernel
theorem dX10_made_17 : decode cX10_made 17 = .ok (.ifCond .eq 8, 3) := by decide +kernel
theorem dX10_made_20 : decode cX10_made 20 = .ok (.iload_n 3, 1) := by decide +kernel
theorem dX10_made_21 : decode cX10_made 21 = .ok (.iconst (-1), 1) := by decide +kernel
theorem dX10_made_22 : decode cX10_made 22 = .ok (.if_icmp .ge 5, 3) := by decide +kernel
theorem dX10_made_25 : decode cX10_made 25 = .ok (.iconst (-1), 1) := by decide +kernel
theorem dX10_made_26 : decode cX10_made 26 = .ok (.ireturn, 1) := by decide +kernel
theorem dX10_made_27 : decode cX10_made 27 = .ok (.aload_n 0, 1) := by decide +kernel
theorem dX10_made_28 : decode cX10_made 28 = .ok (.iconst 0, 1) := by decide +kernel
theorem dX10_made_29 : decode cX10_made 29 = .ok (.putfield 150, 3) := by decide +kernel
theorem dX10_made_32 : decode cX10_made 32 = .ok (.aload_n 0, 1) := by decide +kernel
theorem dX10_made_33 : decode cX10_made 33 = .ok (.iload_n 1, 1) := by decide +kernel
theorem dX10_made_34 : decode cX10_made 34 = .ok (.iload_n 2, 1) := by decide +kernel
theorem dX10_made_35 : decode cX10_made 35 = .ok (.invokevirtual 158, 3) := by decide +kernel
theorem dX10_made_38 : decode cX10_made 38 = .ok (.ifCond .eq 11, 3) := by decide +kernel
theorem dX10_made_41 : decode cX10_made 41 = .ok (.aload_n 0, 1) := by decide +kernel
theorem dX10_made_42 : decode cX10_made 42 = .ok (.iload_n 3, 1) := by decide +kernel
theorem dX10_made_43 : decode cX10_made 43 = .ok (.invokevirtual 161, 3) := by decide +kernel
theorem dX10_made_46 : decode cX10_made 46 = .ok (.goto 5, 3) := by decide +kernel
theorem dX10_made_49 : decode cX10_made 49 = .ok (.bipush (-4), 2) := by decide +kernel
theorem dX10_made_51 : decode cX10_made 51 = .ok (.ireturn, 1) := by decide +kernel
theorem dX10_findShown_0 : decode cX10_findShown 0 = .ok (.aload_n 0, 1) := by decide +kernel
theorem dX10_findShown_1 : decode cX10_findShown 1 = .ok (.iconst 0, 1) := by decide +kernel
theorem dX10_findShown_2 : decode cX10_findShown 2 = .ok (.putfield 164, 3) := by decide +kernel
theorem dX10_findShown_5 : decode cX10_findShown 5 = .ok (.iconst 0, 1) := by decide +kernel
theorem dX10_findShown_6 : decode cX10_findShown 6 = .ok (.istore_n 2, 1) := by decide +kernel
theorem dX10_findShown_7 : decode cX10_findShown 7 = .ok (.iload_n 2, 1) := by decide +kernel
theorem dX10_findShown_8 : decode cX10_findShown 8 = .ok (.aload_n 0, 1) := by decide +kernel
theorem dX10_findShown_9 : decode cX10_findShown 9 = .ok (.getfield 80, 3) := by decide +kernel
theorem dX10_findShown_12 : decode cX10_findShown 12 = .ok (.if_icmp .ge 47, 3) := by decide +kernel
theorem dX10_findShown_15 : decode cX10_findShown 15 = .ok (.aload_n 0, 1) := by decide +kernel
theorem dX10_findShown_16 : decode cX10_findShown 16 = .ok (.getfield 16, 3) := by decide +kernel
theorem dX10_findShown_19 : decode cX10_findShown 19 = .ok (.iload_n 2, 1) := by decide +kernel
theorem dX10_findShown_20 : decode cX10_findShown 20 = .ok (.iaload, 1) := by decide +kernel
theorem dX10_findShown_21 : decode cX10_findShown 21 = .ok (.iconst 1, 1) := by decide +kernel
theorem dX10_findShown_22 : decode cX10_findShown 22 = .ok (.if_icmp .ne 31, 3) := by decide +kernel
theorem dX10_findShown_25 : decode cX10_findShown 25 = .ok (.iload_n 1, 1) := by decide +kernel
theorem dX10_findShown_26 : decode cX10_findShown 26 = .ok (.iload_n 2, 1) := by decide +kernel
theorem dX10_findShown_27 : decode cX10_findShown 27 = .ok (.ishr, 1) := by decide +kernel
theorem dX10_findShown_28 : decode cX10_findShown 28 = .ok (.iconst 1, 1) := by decide +kernel
theorem dX10_findShown_29 : decode cX10_findShown 29 = .ok (.iand, 1) := by decide +kernel
theorem dX10_findShown_30 : decode cX10_findShown 30 = .ok (.ifCond .ne 23, 3) := by decide +kernel
theorem dX10_findShown_33 : decode cX10_findShown 33 = .ok (.aload_n 0, 1) := by decide +kernel
theorem dX10_findShown_34 : decode cX10_findShown 34 = .ok (.getfield 34, 3) := by decide +kernel
theorem dX10_findShown_37 : decode cX10_findShown 37 = .ok (.aload_n 0, 1) := by decide +kernel
theorem dX10_findShown_38 : decode cX10_findShown 38 = .ok (.getfield 164, 3) := by decide +kernel
theorem dX10_findShown_41 : decode cX10_findShown 41 = .ok (.iload_n 2, 1) := by decide +kernel
theorem dX10_findShown_42 : decode cX10_findShown 42 = .ok (.iastore, 1) := by decide +kernel
theorem dX10_findShown_43 : decode cX10_findShown 43 = .ok (.aload_n 0, 1) := by decide +kernel
theorem dX10_findShown_44 : decode cX10_findShown 44 = .ok (.dup, 1) := by decide +kernel
theorem dX10_findShown_45 : decode cX10_findShown 45 = .ok (.getfield 164, 3) := by decide +kernel
theorem dX10_findShown_48 : decode cX10_findShown 48 = .ok (.iconst 1, 1) := by decide +kernel
theorem dX10_findShown_49 : decode cX10_findShown 49 = .ok (.iadd, 1) := by decide +kernel
theorem dX10_findShown_50 : decode cX10_findShown 50 = .ok (.putfield 164, 3) := by decide +kernel
theorem dX10_findShown_53 : decode cX10_findShown 53 = .ok (.iinc 2 1, 3) := by decide +kernel
theorem dX10_findShown_56 : decode cX10_findShown 56 = .ok (.goto (-49), 3) := by decide +kernel
theorem dX10_findShown_59 : decode cX10_findShown 59 = .ok (.return_, 1) := by decide +kernel
theorem dX10_countOf_0 : decode cX10_countOf 0 = .ok (.iconst 0, 1) := by decide +kernel
theorem dX10_countOf_1 : decode cX10_countOf 1 = .ok (.istore_n 2, 1) := by decide +kernel
theorem dX10_countOf_2 : decode cX10_countOf 2 = .ok (.iconst 0, 1) := by decide +kernel
theorem dX10_countOf_3 : decode cX10_countOf 3 = .ok (.istore_n 3, 1) := by decide +kernel
theorem dX10_countOf_4 : decode cX10_countOf 4 = .ok (.iload_n 3, 1) := by decide +kernel
theorem dX10_countOf_5 : decode cX10_countOf 5 = .ok (.aload_n 0, 1) := by decide +kernel
theorem dX10_countOf_6 : decode cX10_countOf 6 = .ok (.getfield 80, 3) := by decide +kernel
theorem dX10_countOf_9 : decode cX10_countOf 9 = .ok (.if_icmp .ge 27, 3) := by decide +kernel
theorem dX10_countOf_12 : decode cX10_countOf 12 = .ok (.iload_n 2, 1) := by decide +kernel
theorem dX10_countOf_13 : decode cX10_countOf 13 = .ok (.aload_n 0, 1) := by decide +kernel
theorem dX10_countOf_14 : decode cX10_countOf 14 = .ok (.getfield 16, 3) := by decide +kernel
theorem dX10_countOf_17 : decode cX10_countOf 17 = .ok (.iload_n 3, 1) := by decide +kernel
theorem dX10_countOf_18 : decode cX10_countOf 18 = .ok (.iaload, 1) := by decide +kernel
theorem dX10_countOf_19 : decode cX10_countOf 19 = .ok (.iload_n 1, 1) := by decide +kernel
theorem dX10_countOf_20 : decode cX10_countOf 20 = .ok (.if_icmp .ne 7, 3) := by decide +kernel
theorem dX10_countOf_23 : decode cX10_countOf 23 = .ok (.iconst 1, 1) := by decide +kernel
theorem dX10_countOf_24 : decode cX10_countOf 24 = .ok (.goto 4, 3) := by decide +kernel
theorem dX10_countOf_27 : decode cX10_countOf 27 = .ok (.iconst 0, 1) := by decide +kernel
theorem dX10_countOf_28 : decode cX10_countOf 28 = .ok (.iadd, 1) := by decide +kernel
theorem dX10_countOf_29 : decode cX10_countOf 29 = .ok (.istore_n 2, 1) := by decide +kernel
theorem dX10_countOf_30 : decode cX10_countOf 30 = .ok (.iinc 3 1, 3) := by decide +kernel
theorem dX10_countOf_33 : decode cX10_countOf 33 = .ok (.goto (-29), 3) := by decide +kernel
theorem dX10_countOf_36 : decode cX10_countOf 36 = .ok (.iload_n 2, 1) := by decide +kernel
theorem dX10_countOf_37 : decode cX10_countOf 37 = .ok (.ireturn, 1) := by decide +kernel
theorem dX10_show_0 : decode cX10_show 0 = .ok (.aload_n 0, 1) := by decide +kernel
theorem dX10_show_1 : decode cX10_show 1 = .ok (.iload_n 1, 1) := by decide +kernel
theorem dX10_show_2 : decode cX10_show 2 = .ok (.invokevirtual 105, 3) := by decide +kernel
theorem dX10_show_5 : decode cX10_show 5 = .ok (.ifCond .ne 5, 3) := by decide +kernel
theorem dX10_show_8 : decode cX10_show 8 = .ok (.iconst (-1), 1) := by decide +kernel
theorem dX10_show_9 : decode cX10_show 9 = .ok (.ireturn, 1) := by decide +kernel
theorem dX10_show_10 : decode cX10_show 10 = .ok (.aload_n 0, 1) := by decide +kernel
theorem dX10_show_11 : decode cX10_show 11 = .ok (.getfield 96, 3) := by decide +kernel
theorem dX10_show_14 : decode cX10_show 14 = .ok (.istore_n 2, 1) := by decide +kernel
theorem dX10_show_15 : decode cX10_show 15 = .ok (.aload_n 0, 1) := by decide +kernel
theorem dX10_show_16 : decode cX10_show 16 = .ok (.iconst 0, 1) := by decide +kernel
theorem dX10_show_17 : decode cX10_show 17 = .ok (.putfield 96, 3) := by decide +kernel
theorem dX10_show_20 : decode cX10_show 20 = .ok (.iload_n 2, 1) := by decide +kernel
theorem dX10_show_21 : decode cX10_show 21 = .ok (.i2l, 1) := by decide +kernel
theorem dX10_show_22 : decode cX10_show 22 = .ok (.lconst 1, 1) := by decide +kernel
theorem dX10_show_23 : decode cX10_show 23 = .ok (.ldc2_w 167, 3) := by decide +kernel
theorem dX10_show_26 : decode cX10_show 26 = .ok (.invokestatic 84, 3) := by decide +kernel
theorem dX10_show_29 : decode cX10_show 29 = .ok (.ifCond .ne 6, 3) := by decide +kernel
theorem dX10_show_32 : decode cX10_show 32 = .ok (.bipush (-2), 2) := by decide +kernel
theorem dX10_show_34 : decode cX10_show 34 = .ok (.ireturn, 1) := by decide +kernel
theorem dX10_show_35 : decode cX10_show 35 = .ok (.aload_n 0, 1) := by decide +kernel
theorem dX10_show_36 : decode cX10_show 36 = .ok (.iconst 1, 1) := by decide +kernel
theorem dX10_show_37 : decode cX10_show 37 = .ok (.invokevirtual 169, 3) := by decide +kernel
theorem dX10_show_40 : decode cX10_show 40 = .ok (.aload_n 0, 1) := by decide +kernel
theorem dX10_show_41 : decode cX10_show 41 = .ok (.getfield 16, 3) := by decide +kernel
theorem dX10_show_44 : decode cX10_show 44 = .ok (.iload_n 1, 1) := by decide +kernel
theorem dX10_show_45 : decode cX10_show 45 = .ok (.iaload, 1) := by decide +kernel
theorem dX10_show_46 : decode cX10_show 46 = .ok (.iconst 1, 1) := by decide +kernel
theorem dX10_show_47 : decode cX10_show 47 = .ok (.if_icmp .ne 7, 3) := by decide +kernel
theorem dX10_show_50 : decode cX10_show 50 = .ok (.iconst 1, 1) := by decide +kernel
theorem dX10_show_51 : decode cX10_show 51 = .ok (.goto 4, 3) := by decide +kernel
theorem dX10_show_54 : decode cX10_show 54 = .ok (.iconst 0, 1) := by decide +kernel
theorem dX10_show_55 : decode cX10_show 55 = .ok (.isub, 1) := by decide +kernel
theorem dX10_show_56 : decode cX10_show 56 = .ok (.iconst 4, 1) := by decide +kernel
theorem dX10_show_57 : decode cX10_show 57 = .ok (.if_icmp .ne 6, 3) := by decide +kernel
theorem dX10_show_60 : decode cX10_show 60 = .ok (.bipush (-3), 2) := by decide +kernel
theorem dX10_show_62 : decode cX10_show 62 = .ok (.ireturn, 1) := by decide +kernel
theorem dX10_show_63 : decode cX10_show 63 = .ok (.iconst 0, 1) := by decide +kernel
theorem dX10_show_64 : decode cX10_show 64 = .ok (.istore_n 3, 1) := by decide +kernel
theorem dX10_show_65 : decode cX10_show 65 = .ok (.iload_n 3, 1) := by decide +kernel
theorem dX10_show_66 : decode cX10_show 66 = .ok (.iload_n 2, 1) := by decide +kernel
theorem dX10_show_67 : decode cX10_show 67 = .ok (.if_icmp .ge 26, 3) := by decide +kernel
theorem dX10_show_70 : decode cX10_show 70 = .ok (.aload_n 0, 1) := by decide +kernel
theorem dX10_show_71 : decode cX10_show 71 = .ok (.getfield 19, 3) := by decide +kernel
theorem dX10_show_74 : decode cX10_show 74 = .ok (.bipush 36, 2) := by decide +kernel
theorem dX10_show_76 : decode cX10_show 76 = .ok (.iload_n 1, 1) := by decide +kernel
theorem dX10_show_77 : decode cX10_show 77 = .ok (.imul, 1) := by decide +kernel
theorem dX10_show_78 : decode cX10_show 78 = .ok (.iload_n 3, 1) := by decide +kernel
theorem dX10_show_79 : decode cX10_show 79 = .ok (.iadd, 1) := by decide +kernel
theorem dX10_show_80 : decode cX10_show 80 = .ok (.aload_n 0, 1) := by decide +kernel
theorem dX10_show_81 : decode cX10_show 81 = .ok (.getfield 28, 3) := by decide +kernel
theorem dX10_show_84 : decode cX10_show 84 = .ok (.iload_n 3, 1) := by decide +kernel
theorem dX10_show_85 : decode cX10_show 85 = .ok (.iaload, 1) := by decide +kernel
theorem dX10_show_86 : decode cX10_show 86 = .ok (.iastore, 1) := by decide +kernel
theorem dX10_show_87 : decode cX10_show 87 = .ok (.iinc 3 1, 3) := by decide +kernel
theorem dX10_show_90 : decode cX10_show 90 = .ok (.goto (-25), 3) := by decide +kernel
theorem dX10_show_93 : decode cX10_show 93 = .ok (.aload_n 0, 1) := by decide +kernel
theorem dX10_show_94 : decode cX10_show 94 = .ok (.getfield 22, 3) := by decide +kernel
theorem dX10_show_97 : decode cX10_show 97 = .ok (.iload_n 1, 1) := by decide +kernel
theorem dX10_show_98 : decode cX10_show 98 = .ok (.iload_n 2, 1) := by decide +kernel
theorem dX10_show_99 : decode cX10_show 99 = .ok (.iastore, 1) := by decide +kernel
theorem dX10_show_100 : decode cX10_show 100 = .ok (.aload_n 0, 1) := by decide +kernel
theorem dX10_show_101 : decode cX10_show 101 = .ok (.getfield 16, 3) := by decide +kernel
theorem dX10_show_104 : decode cX10_show 104 = .ok (.iload_n 1, 1) := by decide +kernel
theorem dX10_show_105 : decode cX10_show 105 = .ok (.iconst 1, 1) := by decide +kernel
theorem dX10_show_106 : decode cX10_show 106 = .ok (.iastore, 1) := by decide +kernel
theorem dX10_show_107 : decode cX10_show 107 = .ok (.aload_n 0, 1) := by decide +kernel
theorem dX10_show_108 : decode cX10_show 108 = .ok (.getfield 25, 3) := by decide +kernel
theorem dX10_show_111 : decode cX10_show 111 = .ok (.iload_n 1, 1) := by decide +kernel
theorem dX10_show_112 : decode cX10_show 112 = .ok (.iconst 0, 1) := by decide +kernel
theorem dX10_show_113 : decode cX10_show 113 = .ok (.iastore, 1) := by decide +kernel
theorem dX10_show_114 : decode cX10_show 114 = .ok (.aload_n 0, 1) := by decide +kernel
theorem dX10_show_115 : decode cX10_show 115 = .ok (.iconst 1, 1) := by decide +kernel
theorem dX10_show_116 : decode cX10_show 116 = .ok (.invokevirtual 169, 3) := by decide +kernel
theorem dX10_show_119 : decode cX10_show 119 = .ok (.ireturn, 1) := by decide +kernel
theorem dX10_forget_0 : decode cX10_forget 0 = .ok (.aload_n 0, 1) := by decide +kernel
theorem dX10_forget_1 : decode cX10_forget 1 = .ok (.iload_n 1, 1) := by decide +kernel
theorem dX10_forget_2 : decode cX10_forget 2 = .ok (.invokevirtual 105, 3) := by decide +kernel
theorem dX10_forget_5 : decode cX10_forget 5 = .ok (.ifCond .ne 5, 3) := by decide +kernel
theorem dX10_forget_8 : decode cX10_forget 8 = .ok (.iconst (-1), 1) := by decide +kernel
theorem dX10_forget_9 : decode cX10_forget 9 = .ok (.ireturn, 1) := by decide +kernel
theorem dX10_forget_10 : decode cX10_forget 10 = .ok (.aload_n 0, 1) := by decide +kernel
theorem dX10_forget_11 : decode cX10_forget 11 = .ok (.getfield 16, 3) := by decide +kernel
theorem dX10_forget_14 : decode cX10_forget 14 = .ok (.iload_n 1, 1) := by decide +kernel
theorem dX10_forget_15 : decode cX10_forget 15 = .ok (.iaload, 1) := by decide +kernel
theorem dX10_forget_16 : decode cX10_forget 16 = .ok (.iconst 1, 1) := by decide +kernel
theorem dX10_forget_17 : decode cX10_forget 17 = .ok (.if_icmp .eq 6, 3) := by decide +kernel
theorem dX10_forget_20 : decode cX10_forget 20 = .ok (.bipush (-2), 2) := by decide +kernel
theorem dX10_forget_22 : decode cX10_forget 22 = .ok (.ireturn, 1) := by decide +kernel
theorem dX10_forget_23 : decode cX10_forget 23 = .ok (.aload_n 0, 1) := by decide +kernel
theorem dX10_forget_24 : decode cX10_forget 24 = .ok (.getfield 16, 3) := by decide +kernel
theorem dX10_forget_27 : decode cX10_forget 27 = .ok (.iload_n 1, 1) := by decide +kernel
theorem dX10_forget_28 : decode cX10_forget 28 = .ok (.iconst 0, 1) := by decide +kernel
theorem dX10_forget_29 : decode cX10_forget 29 = .ok (.iastore, 1) := by decide +kernel
theorem dX10_forget_30 : decode cX10_forget 30 = .ok (.aload_n 0, 1) := by decide +kernel
theorem dX10_forget_31 : decode cX10_forget 31 = .ok (.iconst 1, 1) := by decide +kernel
theorem dX10_forget_32 : decode cX10_forget 32 = .ok (.invokevirtual 169, 3) := by decide +kernel
theorem dX10_forget_35 : decode cX10_forget 35 = .ok (.ireturn, 1) := by decide +kernel
theorem dX10_costOf_0 : decode cX10_costOf 0 = .ok (.iload_n 0, 1) := by decide +kernel
theorem dX10_costOf_1 : decode cX10_costOf 1 = .ok (.ldc 149, 2) := by decide +kernel
theorem dX10_costOf_3 : decode cX10_costOf 3 = .ok (.if_icmp .lt 12, 3) := by decide +kernel
theorem dX10_costOf_6 : decode cX10_costOf 6 = .ok (.iconst 2, 1) := by decide +kernel
theorem dX10_costOf_7 : decode cX10_costOf 7 = .ok (.iload_n 0, 1) := by decide +kernel
theorem dX10_costOf_8 : decode cX10_costOf 8 = .ok (.ldc 149, 2) := by decide +kernel
theorem dX10_costOf_10 : decode cX10_costOf 10 = .ok (.idiv, 1) := by decide +kernel
theorem dX10_costOf_11 : decode cX10_costOf 11 = .ok (.iadd, 1) := by decide +kernel
theorem dX10_costOf_12 : decode cX10_costOf 12 = .ok (.goto 14, 3) := by decide +kernel
theorem dX10_costOf_15 : decode cX10_costOf 15 = .ok (.iload_n 0, 1) := by decide +kernel
theorem dX10_costOf_16 : decode cX10_costOf 16 = .ok (.iconst 3, 1) := by decide +kernel
theorem dX10_costOf_17 : decode cX10_costOf 17 = .ok (.irem, 1) := by decide +kernel
theorem dX10_costOf_18 : decode cX10_costOf 18 = .ok (.ifCond .ne 7, 3) := by decide +kernel
theorem dX10_costOf_21 : decode cX10_costOf 21 = .ok (.iconst 4, 1) := by decide +kernel
theorem dX10_costOf_22 : decode cX10_costOf 22 = .ok (.goto 4, 3) := by decide +kernel
theorem dX10_costOf_25 : decode cX10_costOf 25 = .ok (.iconst 5, 1) := by decide +kernel
theorem dX10_costOf_26 : decode cX10_costOf 26 = .ok (.ireturn, 1) := by decide +kernel
theorem dX10_standsAt_0 : decode cX10_standsAt 0 = .ok (.iload_n 2, 1) := by decide +kernel
theorem dX10_standsAt_1 : decode cX10_standsAt 1 = .ok (.ifCond .lt 22, 3) := by decide +kernel
theorem dX10_standsAt_4 : decode cX10_standsAt 4 = .ok (.iload_n 2, 1) := by decide +kernel
theorem dX10_standsAt_5 : decode cX10_standsAt 5 = .ok (.aload_n 0, 1) := by decide +kernel
theorem dX10_standsAt_6 : decode cX10_standsAt 6 = .ok (.getfield 150, 3) := by decide +kernel
theorem dX10_standsAt_9 : decode cX10_standsAt 9 = .ok (.iadd, 1) := by decide +kernel
theorem dX10_standsAt_10 : decode cX10_standsAt 10 = .ok (.aload_n 0, 1) := by decide +kernel
theorem dX10_standsAt_11 : decode cX10_standsAt 11 = .ok (.getfield 22, 3) := by decide +kernel
theorem dX10_standsAt_14 : decode cX10_standsAt 14 = .ok (.iload_n 1, 1) := by decide +kernel
theorem dX10_standsAt_15 : decode cX10_standsAt 15 = .ok (.iaload, 1) := by decide +kernel
theorem dX10_standsAt_16 : decode cX10_standsAt 16 = .ok (.if_icmp .gt 7, 3) := by decide +kernel
theorem dX10_standsAt_19 : decode cX10_standsAt 19 = .ok (.iconst 1, 1) := by decide +kernel
theorem dX10_standsAt_20 : decode cX10_standsAt 20 = .ok (.goto 4, 3) := by decide +kernel
theorem dX10_standsAt_23 : decode cX10_standsAt 23 = .ok (.iconst 0, 1) := by decide +kernel
theorem dX10_standsAt_24 : decode cX10_standsAt 24 = .ok (.istore_n 3, 1) := by decide +kernel
theorem dX10_standsAt_25 : decode cX10_standsAt 25 = .ok (.iconst 0, 1) := by decide +kernel
theorem dX10_standsAt_26 : decode cX10_standsAt 26 = .ok (.istore 4, 2) := by decide +kernel
theorem dX10_standsAt_28 : decode cX10_standsAt 28 = .ok (.iload 4, 2) := by decide +kernel
theorem dX10_standsAt_30 : decode cX10_standsAt 30 = .ok (.aload_n 0, 1) := by decide +kernel
theorem dX10_standsAt_31 : decode cX10_standsAt 31 = .ok (.getfield 150, 3) := by decide +kernel
theorem dX10_standsAt_34 : decode cX10_standsAt 34 = .ok (.if_icmp .ge 43, 3) := by decide +kernel
theorem dX10_standsAt_37 : decode cX10_standsAt 37 = .ok (.iload_n 3, 1) := by decide +kernel
theorem dX10_standsAt_38 : decode cX10_standsAt 38 = .ok (.ifCond .eq 39, 3) := by decide +kernel
theorem dX10_standsAt_41 : decode cX10_standsAt 41 = .ok (.aload_n 0, 1) := by decide +kernel
theorem dX10_standsAt_42 : decode cX10_standsAt 42 = .ok (.getfield 31, 3) := by decide +kernel
theorem dX10_standsAt_45 : decode cX10_standsAt 45 = .ok (.iload 4, 2) := by decide +kernel
theorem dX10_standsAt_47 : decode cX10_standsAt 47 = .ok (.iaload, 1) := by decide +kernel
theorem dX10_standsAt_48 : decode cX10_standsAt 48 = .ok (.aload_n 0, 1) := by decide +kernel
theorem dX10_standsAt_49 : decode cX10_standsAt 49 = .ok (.getfield 19, 3) := by decide +kernel
theorem dX10_standsAt_52 : decode cX10_standsAt 52 = .ok (.bipush 36, 2) := by decide +kernel
theorem dX10_standsAt_54 : decode cX10_standsAt 54 = .ok (.iload_n 1, 1) := by decide +kernel
theorem dX10_standsAt_55 : decode cX10_standsAt 55 = .ok (.imul, 1) := by decide +kernel
theorem dX10_standsAt_56 : decode cX10_standsAt 56 = .ok (.iload_n 2, 1) := by decide +kernel
theorem dX10_standsAt_57 : decode cX10_standsAt 57 = .ok (.iadd, 1) := by decide +kernel
theorem dX10_standsAt_58 : decode cX10_standsAt 58 = .ok (.iload 4, 2) := by decide +kernel
theorem dX10_standsAt_60 : decode cX10_standsAt 60 = .ok (.iadd, 1) := by decide +kernel
theorem dX10_standsAt_61 : decode cX10_standsAt 61 = .ok (.iaload, 1) := by decide +kernel
theorem dX10_standsAt_62 : decode cX10_standsAt 62 = .ok (.if_icmp .ne 7, 3) := by decide +kernel
theorem dX10_standsAt_65 : decode cX10_standsAt 65 = .ok (.iconst 1, 1) := by decide +kernel
theorem dX10_standsAt_66 : decode cX10_standsAt 66 = .ok (.goto 4, 3) := by decide +kernel
theorem dX10_standsAt_69 : decode cX10_standsAt 69 = .ok (.iconst 0, 1) := by decide +kernel
theorem dX10_standsAt_70 : decode cX10_standsAt 70 = .ok (.istore_n 3, 1) := by decide +kernel
theorem dX10_standsAt_71 : decode cX10_standsAt 71 = .ok (.iinc 4 1, 3) := by decide +kernel
theorem dX10_standsAt_74 : decode cX10_standsAt 74 = .ok (.goto (-46), 3) := by decide +kernel
theorem dX10_standsAt_77 : decode cX10_standsAt 77 = .ok (.iload_n 3, 1) := by decide +kernel
theorem dX10_standsAt_78 : decode cX10_standsAt 78 = .ok (.ireturn, 1) := by decide +kernel
theorem dX10_longOf_0 : decode cX10_longOf 0 = .ok (.iconst 0, 1) := by decide +kernel
theorem dX10_longOf_1 : decode cX10_longOf 1 = .ok (.istore_n 3, 1) := by decide +kernel
theorem dX10_longOf_2 : decode cX10_longOf 2 = .ok (.iconst 0, 1) := by decide +kernel
theorem dX10_longOf_3 : decode cX10_longOf 3 = .ok (.istore 4, 2) := by decide +kernel
theorem dX10_longOf_5 : decode cX10_longOf 5 = .ok (.iload 4, 2) := by decide +kernel
theorem dX10_longOf_7 : decode cX10_longOf 7 = .ok (.aload_n 0, 1) := by decide +kernel
theorem dX10_longOf_8 : decode cX10_longOf 8 = .ok (.getfield 164, 3) := by decide +kernel
theorem dX10_longOf_11 : decode cX10_longOf 11 = .ok (.if_icmp .ge 87, 3) := by decide +kernel
theorem dX10_longOf_14 : decode cX10_longOf 14 = .ok (.aload_n 0, 1) := by decide +kernel
theorem dX10_longOf_15 : decode cX10_longOf 15 = .ok (.iconst 0, 1) := by decide +kernel
theorem dX10_longOf_16 : decode cX10_longOf 16 = .ok (.putfield 150, 3) := by decide +kernel
theorem dX10_longOf_19 : decode cX10_longOf 19 = .ok (.aload_n 0, 1) := by decide +kernel
theorem dX10_longOf_20 : decode cX10_longOf 20 = .ok (.aload_n 0, 1) := by decide +kernel
theorem dX10_longOf_21 : decode cX10_longOf 21 = .ok (.getfield 34, 3) := by decide +kernel
theorem dX10_longOf_24 : decode cX10_longOf 24 = .ok (.iload 4, 2) := by decide +kernel
theorem dX10_longOf_26 : decode cX10_longOf 26 = .ok (.iaload, 1) := by decide +kernel
theorem dX10_longOf_27 : decode cX10_longOf 27 = .ok (.iload_n 1, 1) := by decide +kernel
theorem dX10_longOf_28 : decode cX10_longOf 28 = .ok (.invokevirtual 158, 3) := by decide +kernel
theorem dX10_longOf_31 : decode cX10_longOf 31 = .ok (.istore 5, 2) := by decide +kernel
theorem dX10_longOf_33 : decode cX10_longOf 33 = .ok (.iload 5, 2) := by decide +kernel
theorem dX10_longOf_35 : decode cX10_longOf 35 = .ok (.ifCond .eq 42, 3) := by decide +kernel
theorem dX10_longOf_38 : decode cX10_longOf 38 = .ok (.aload_n 0, 1) := by decide +kernel
theorem dX10_longOf_39 : decode cX10_longOf 39 = .ok (.aload_n 0, 1) := by decide +kernel
theorem dX10_longOf_40 : decode cX10_longOf 40 = .ok (.getfield 34, 3) := by decide +kernel
theorem dX10_longOf_43 : decode cX10_longOf 43 = .ok (.iload 4, 2) := by decide +kernel
theorem dX10_longOf_45 : decode cX10_longOf 45 = .ok (.iaload, 1) := by decide +kernel
theorem dX10_longOf_46 : decode cX10_longOf 46 = .ok (.iload_n 2, 1) := by decide +kernel
theorem dX10_longOf_47 : decode cX10_longOf 47 = .ok (.ifCond .eq 23, 3) := by decide +kernel
theorem dX10_longOf_50 : decode cX10_longOf 50 = .ok (.aload_n 0, 1) := by decide +kernel
theorem dX10_longOf_51 : decode cX10_longOf 51 = .ok (.getfield 22, 3) := by decide +kernel
theorem dX10_longOf_54 : decode cX10_longOf 54 = .ok (.aload_n 0, 1) := by decide +kernel
theorem dX10_longOf_55 : decode cX10_longOf 55 = .ok (.getfield 34, 3) := by decide +kernel
theorem dX10_longOf_58 : decode cX10_longOf 58 = .ok (.iload 4, 2) := by decide +kernel
theorem dX10_longOf_60 : decode cX10_longOf 60 = .ok (.iaload, 1) := by decide +kernel
theorem dX10_longOf_61 : decode cX10_longOf 61 = .ok (.iaload, 1) := by decide +kernel
theorem dX10_longOf_62 : decode cX10_longOf 62 = .ok (.aload_n 0, 1) := by decide +kernel
theorem dX10_longOf_63 : decode cX10_longOf 63 = .ok (.getfield 150, 3) := by decide +kernel
theorem dX10_longOf_66 : decode cX10_longOf 66 = .ok (.isub, 1) := by decide +kernel
theorem dX10_longOf_67 : decode cX10_longOf 67 = .ok (.goto 4, 3) := by decide +kernel
theorem dX10_longOf_70 : decode cX10_longOf 70 = .ok (.iconst 0, 1) := by decide +kernel
theorem dX10_longOf_71 : decode cX10_longOf 71 = .ok (.invokevirtual 172, 3) := by decide +kernel
theorem dX10_longOf_74 : decode cX10_longOf 74 = .ok (.ifCond .ne 6, 3) := by decide +kernel
theorem dX10_longOf_77 : decode cX10_longOf 77 = .ok (.bipush (-4), 2) := by decide +kernel
theorem dX10_longOf_79 : decode cX10_longOf 79 = .ok (.ireturn, 1) := by decide +kernel
theorem dX10_longOf_80 : decode cX10_longOf 80 = .ok (.iload_n 3, 1) := by decide +kernel
theorem dX10_longOf_81 : decode cX10_longOf 81 = .ok (.aload_n 0, 1) := by decide +kernel
theorem dX10_longOf_82 : decode cX10_longOf 82 = .ok (.getfield 150, 3) := by decide +kernel
theorem dX10_longOf_85 : decode cX10_longOf 85 = .ok (.iconst 4, 1) := by decide +kernel
theorem dX10_longOf_86 : decode cX10_longOf 86 = .ok (.iload 4, 2) := by decide +kernel
theorem dX10_longOf_88 : decode cX10_longOf 88 = .ok (.imul, 1) := by decide +kernel
theorem dX10_longOf_89 : decode cX10_longOf 89 = .ok (.ishl, 1) := by decide +kernel
theorem dX10_longOf_90 : decode cX10_longOf 90 = .ok (.ior, 1) := by decide +kernel
theorem dX10_longOf_91 : decode cX10_longOf 91 = .ok (.istore_n 3, 1) := by decide +kernel
theorem dX10_longOf_92 : decode cX10_longOf 92 = .ok (.iinc 4 1, 3) := by decide +kernel
theorem dX10_longOf_95 : decode cX10_longOf 95 = .ok (.goto (-90), 3) := by decide +kernel
theorem dX10_longOf_98 : decode cX10_longOf 98 = .ok (.iload_n 3, 1) := by decide +kernel
theorem dX10_longOf_99 : decode cX10_longOf 99 = .ok (.ireturn, 1) := by decide +kernel
theorem dX10_typedAt_0 : decode cX10_typedAt 0 = .ok (.iconst 0, 1) := by decide +kernel
theorem dX10_typedAt_1 : decode cX10_typedAt 1 = .ok (.istore_n 3, 1) := by decide +kernel
theorem dX10_typedAt_2 : decode cX10_typedAt 2 = .ok (.iconst 0, 1) := by decide +kernel
theorem dX10_typedAt_3 : decode cX10_typedAt 3 = .ok (.istore 4, 2) := by decide +kernel
theorem dX10_typedAt_5 : decode cX10_typedAt 5 = .ok (.iload 4, 2) := by decide +kernel
theorem dX10_typedAt_7 : decode cX10_typedAt 7 = .ok (.aload_n 0, 1) := by decide +kernel
theorem dX10_typedAt_8 : decode cX10_typedAt 8 = .ok (.getfield 164, 3) := by decide +kernel
theorem dX10_typedAt_11 : decode cX10_typedAt 11 = .ok (.if_icmp .ge 116, 3) := by decide +kernel
theorem dX10_typedAt_14 : decode cX10_typedAt 14 = .ok (.iload_n 1, 1) := by decide +kernel
theorem dX10_typedAt_15 : decode cX10_typedAt 15 = .ok (.iconst 4, 1) := by decide +kernel
theorem dX10_typedAt_16 : decode cX10_typedAt 16 = .ok (.iload 4, 2) := by decide +kernel
theorem dX10_typedAt_18 : decode cX10_typedAt 18 = .ok (.imul, 1) := by decide +kernel
theorem dX10_typedAt_19 : decode cX10_typedAt 19 = .ok (.ishr, 1) := by decide +kernel
theorem dX10_typedAt_20 : decode cX10_typedAt 20 = .ok (.bipush 15, 2) := by decide +kernel
theorem dX10_typedAt_22 : decode cX10_typedAt 22 = .ok (.iand, 1) := by decide +kernel
theorem dX10_typedAt_23 : decode cX10_typedAt 23 = .ok (.istore 5, 2) := by decide +kernel
theorem dX10_typedAt_25 : decode cX10_typedAt 25 = .ok (.iload_n 2, 1) := by decide +kernel
theorem dX10_typedAt_26 : decode cX10_typedAt 26 = .ok (.ldc 149, 2) := by decide +kernel
theorem dX10_typedAt_28 : decode cX10_typedAt 28 = .ok (.imul, 1) := by decide +kernel
theorem dX10_typedAt_29 : decode cX10_typedAt 29 = .ok (.istore 6, 2) := by decide +kernel
theorem dX10_typedAt_31 : decode cX10_typedAt 31 = .ok (.iload 5, 2) := by decide +kernel
theorem dX10_typedAt_33 : decode cX10_typedAt 33 = .ok (.iload_n 2, 1) := by decide +kernel
theorem dX10_typedAt_34 : decode cX10_typedAt 34 = .ok (.iadd, 1) := by decide +kernel
theorem dX10_typedAt_35 : decode cX10_typedAt 35 = .ok (.aload_n 0, 1) := by decide +kernel
theorem dX10_typedAt_36 : decode cX10_typedAt 36 = .ok (.getfield 22, 3) := by decide +kernel
theorem dX10_typedAt_39 : decode cX10_typedAt 39 = .ok (.aload_n 0, 1) := by decide +kernel
theorem dX10_typedAt_40 : decode cX10_typedAt 40 = .ok (.getfield 34, 3) := by decide +kernel
theorem dX10_typedAt_43 : decode cX10_typedAt 43 = .ok (.iload 4, 2) := by decide +kernel
theorem dX10_typedAt_45 : decode cX10_typedAt 45 = .ok (.iaload, 1) := by decide +kernel
theorem dX10_typedAt_46 : decode cX10_typedAt 46 = .ok (.iaload, 1) := by decide +kernel
theorem dX10_typedAt_47 : decode cX10_typedAt 47 = .ok (.if_icmp .le 6, 3) := by decide +kernel
theorem dX10_typedAt_50 : decode cX10_typedAt 50 = .ok (.bipush (-4), 2) := by decide +kernel
theorem dX10_typedAt_52 : decode cX10_typedAt 52 = .ok (.ireturn, 1) := by decide +kernel
theorem dX10_typedAt_53 : decode cX10_typedAt 53 = .ok (.iconst 0, 1) := by decide +kernel
theorem dX10_typedAt_54 : decode cX10_typedAt 54 = .ok (.istore 7, 2) := by decide +kernel
theorem dX10_typedAt_56 : decode cX10_typedAt 56 = .ok (.iload 7, 2) := by decide +kernel
theorem dX10_typedAt_58 : decode cX10_typedAt 58 = .ok (.iload_n 2, 1) := by decide +kernel
theorem dX10_typedAt_59 : decode cX10_typedAt 59 = .ok (.if_icmp .ge 45, 3) := by decide +kernel
theorem dX10_typedAt_62 : decode cX10_typedAt 62 = .ok (.iload 6, 2) := by decide +kernel
theorem dX10_typedAt_64 : decode cX10_typedAt 64 = .ok (.aload_n 0, 1) := by decide +kernel
theorem dX10_typedAt_65 : decode cX10_typedAt 65 = .ok (.getfield 19, 3) := by decide +kernel
theorem dX10_typedAt_68 : decode cX10_typedAt 68 = .ok (.bipush 36, 2) := by decide +kernel
theorem dX10_typedAt_70 : decode cX10_typedAt 70 = .ok (.aload_n 0, 1) := by decide +kernel
theorem dX10_typedAt_71 : decode cX10_typedAt 71 = .ok (.getfield 34, 3) := by decide +kernel
theorem dX10_typedAt_74 : decode cX10_typedAt 74 = .ok (.iload 4, 2) := by decide +kernel
theorem dX10_typedAt_76 : decode cX10_typedAt 76 = .ok (.iaload, 1) := by decide +kernel
theorem dX10_typedAt_77 : decode cX10_typedAt 77 = .ok (.imul, 1) := by decide +kernel
theorem dX10_typedAt_78 : decode cX10_typedAt 78 = .ok (.iload 5, 2) := by decide +kernel
theorem dX10_typedAt_80 : decode cX10_typedAt 80 = .ok (.iadd, 1) := by decide +kernel
theorem dX10_typedAt_81 : decode cX10_typedAt 81 = .ok (.iload 7, 2) := by decide +kernel
theorem dX10_typedAt_83 : decode cX10_typedAt 83 = .ok (.iadd, 1) := by decide +kernel
theorem dX10_typedAt_84 : decode cX10_typedAt 84 = .ok (.iaload, 1) := by decide +kernel
theorem dX10_typedAt_85 : decode cX10_typedAt 85 = .ok (.bipush 8, 2) := by decide +kernel
theorem dX10_typedAt_87 : decode cX10_typedAt 87 = .ok (.iload_n 2, 1) := by decide +kernel
theorem dX10_typedAt_88 : decode cX10_typedAt 88 = .ok (.iconst 1, 1) := by decide +kernel
theorem dX10_typedAt_89 : decode cX10_typedAt 89 = .ok (.isub, 1) := by decide +kernel
theorem dX10_typedAt_90 : decode cX10_typedAt 90 = .ok (.iload 7, 2) := by decide +kernel
theorem dX10_typedAt_92 : decode cX10_typedAt 92 = .ok (.isub, 1) := by decide +kernel
theorem dX10_typedAt_93 : decode cX10_typedAt 93 = .ok (.imul, 1) := by decide +kernel
theorem dX10_typedAt_94 : decode cX10_typedAt 94 = .ok (.ishl, 1) := by decide +kernel
theorem dX10_typedAt_95 : decode cX10_typedAt 95 = .ok (.ior, 1) := by decide +kernel
theorem dX10_typedAt_96 : decode cX10_typedAt 96 = .ok (.istore 6, 2) := by decide +kernel
theorem dX10_typedAt_98 : decode cX10_typedAt 98 = .ok (.iinc 7 1, 3) := by decide +kernel
theorem dX10_typedAt_101 : decode cX10_typedAt 101 = .ok (.goto (-45), 3) := by decide +kernel
theorem dX10_typedAt_104 : decode cX10_typedAt 104 = .ok (.iload 4, 2) := by decide +kernel
theorem dX10_typedAt_106 : decode cX10_typedAt 106 = .ok (.ifCond .le 12, 3) := by decide +kernel
theorem dX10_typedAt_109 : decode cX10_typedAt 109 = .ok (.iload 6, 2) := by decide +kernel
theorem dX10_typedAt_111 : decode cX10_typedAt 111 = .ok (.iload_n 3, 1) := by decide +kernel
theorem dX10_typedAt_112 : decode cX10_typedAt 112 = .ok (.if_icmp .eq 6, 3) := by decide +kernel
theorem dX10_typedAt_115 : decode cX10_typedAt 115 = .ok (.bipush (-4), 2) := by decide +kernel
theorem dX10_typedAt_117 : decode cX10_typedAt 117 = .ok (.ireturn, 1) := by decide +kernel
theorem dX10_typedAt_118 : decode cX10_typedAt 118 = .ok (.iload 6, 2) := by decide +kernel
theorem dX10_typedAt_120 : decode cX10_typedAt 120 = .ok (.istore_n 3, 1) := by decide +kernel
theorem dX10_typedAt_121 : decode cX10_typedAt 121 = .ok (.iinc 4 1, 3) := by decide +kernel
theorem dX10_typedAt_124 : decode cX10_typedAt 124 = .ok (.goto (-119), 3) := by decide +kernel
theorem dX10_typedAt_127 : decode cX10_typedAt 127 = .ok (.iload_n 3, 1) := by decide +kernel
theorem dX10_typedAt_128 : decode cX10_typedAt 128 = .ok (.ireturn, 1) := by decide +kernel
theorem dX10_noteFront_0 : decode cX10_noteFront 0 = .ok (.iload_n 2, 1) := by decide +kernel
theorem dX10_noteFront_1 : decode cX10_noteFront 1 = .ok (.ifCond .lt 33, 3) := by decide +kernel
theorem dX10_noteFront_4 : decode cX10_noteFront 4 = .ok (.aload_n 0, 1) := by decide +kernel
theorem dX10_noteFront_5 : decode cX10_noteFront 5 = .ok (.getfield 37, 3) := by decide +kernel
theorem dX10_noteFront_8 : decode cX10_noteFront 8 = .ok (.aload_n 0, 1) := by decide +kernel
theorem dX10_noteFront_9 : decode cX10_noteFront 9 = .ok (.getfield 175, 3) := by decide +kernel
theorem dX10_noteFront_12 : decode cX10_noteFront 12 = .ok (.iload_n 1, 1) := by decide +kernel
theorem dX10_noteFront_13 : decode cX10_noteFront 13 = .ok (.iastore, 1) := by decide +kernel
theorem dX10_noteFront_14 : decode cX10_noteFront 14 = .ok (.aload_n 0, 1) := by decide +kernel
theorem dX10_noteFront_15 : decode cX10_noteFront 15 = .ok (.getfield 40, 3) := by decide +kernel
theorem dX10_noteFront_18 : decode cX10_noteFront 18 = .ok (.aload_n 0, 1) := by decide +kernel
theorem dX10_noteFront_19 : decode cX10_noteFront 19 = .ok (.getfield 175, 3) := by decide +kernel
theorem dX10_noteFront_22 : decode cX10_noteFront 22 = .ok (.iload_n 2, 1) := by decide +kernel
theorem dX10_noteFront_23 : decode cX10_noteFront 23 = .ok (.iastore, 1) := by decide +kernel
theorem dX10_noteFront_24 : decode cX10_noteFront 24 = .ok (.aload_n 0, 1) := by decide +kernel
theorem dX10_noteFront_25 : decode cX10_noteFront 25 = .ok (.dup, 1) := by decide +kernel
theorem dX10_noteFront_26 : decode cX10_noteFront 26 = .ok (.getfield 175, 3) := by decide +kernel
theorem dX10_noteFront_29 : decode cX10_noteFront 29 = .ok (.iconst 1, 1) := by decide +kernel
theorem dX10_noteFront_30 : decode cX10_noteFront 30 = .ok (.iadd, 1) := by decide +kernel
theorem dX10_noteFront_31 : decode cX10_noteFront 31 = .ok (.putfield 175, 3) := by decide +kernel
theorem dX10_noteFront_34 : decode cX10_noteFront 34 = .ok (.return_, 1) := by decide +kernel
theorem dX10_noteBehind_0 : decode cX10_noteBehind 0 = .ok (.iload_n 2, 1) := by decide +kernel
theorem dX10_noteBehind_1 : decode cX10_noteBehind 1 = .ok (.ifCond .lt 43, 3) := by decide +kernel
theorem dX10_noteBehind_4 : decode cX10_noteBehind 4 = .ok (.aload_n 0, 1) := by decide +kernel
theorem dX10_noteBehind_5 : decode cX10_noteBehind 5 = .ok (.getfield 43, 3) := by decide +kernel
theorem dX10_noteBehind_8 : decode cX10_noteBehind 8 = .ok (.aload_n 0, 1) := by decide +kernel
theorem dX10_noteBehind_9 : decode cX10_noteBehind 9 = .ok (.getfield 178, 3) := by decide +kernel
theorem dX10_noteBehind_12 : decode cX10_noteBehind 12 = .ok (.iload_n 1, 1) := by decide +kernel
theorem dX10_noteBehind_13 : decode cX10_noteBehind 13 = .ok (.iastore, 1) := by decide +kernel
theorem dX10_noteBehind_14 : decode cX10_noteBehind 14 = .ok (.aload_n 0, 1) := by decide +kernel
theorem dX10_noteBehind_15 : decode cX10_noteBehind 15 = .ok (.getfield 46, 3) := by decide +kernel
theorem dX10_noteBehind_18 : decode cX10_noteBehind 18 = .ok (.aload_n 0, 1) := by decide +kernel
theorem dX10_noteBehind_19 : decode cX10_noteBehind 19 = .ok (.getfield 178, 3) := by decide +kernel
theorem dX10_noteBehind_22 : decode cX10_noteBehind 22 = .ok (.iload_n 2, 1) := by decide +kernel
theorem dX10_noteBehind_23 : decode cX10_noteBehind 23 = .ok (.iastore, 1) := by decide +kernel
theorem dX10_noteBehind_24 : decode cX10_noteBehind 24 = .ok (.aload_n 0, 1) := by decide +kernel
theorem dX10_noteBehind_25 : decode cX10_noteBehind 25 = .ok (.dup, 1) := by decide +kernel
theorem dX10_noteBehind_26 : decode cX10_noteBehind 26 = .ok (.getfield 178, 3) := by decide +kernel
theorem dX10_noteBehind_29 : decode cX10_noteBehind 29 = .ok (.iconst 1, 1) := by decide +kernel
theorem dX10_noteBehind_30 : decode cX10_noteBehind 30 = .ok (.iadd, 1) := by decide +kernel
theorem dX10_noteBehind_31 : decode cX10_noteBehind 31 = .ok (.putfield 178, 3) := by decide +kernel
theorem dX10_noteBehind_34 : decode cX10_noteBehind 34 = .ok (.aload_n 0, 1) := by decide +kernel
theorem dX10_noteBehind_35 : decode cX10_noteBehind 35 = .ok (.getfield 50, 3) := by decide +kernel
theorem dX10_noteBehind_38 : decode cX10_noteBehind 38 = .ok (.iload_n 2, 1) := by decide +kernel
theorem dX10_noteBehind_39 : decode cX10_noteBehind 39 = .ok (.dup2, 1) := by decide +kernel
theorem dX10_noteBehind_40 : decode cX10_noteBehind 40 = .ok (.iaload, 1) := by decide +kernel
theorem dX10_noteBehind_41 : decode cX10_noteBehind 41 = .ok (.iconst 1, 1) := by decide +kernel
theorem dX10_noteBehind_42 : decode cX10_noteBehind 42 = .ok (.iadd, 1) := by decide +kernel
theorem dX10_noteBehind_43 : decode cX10_noteBehind 43 = .ok (.iastore, 1) := by decide +kernel
theorem dX10_noteBehind_44 : decode cX10_noteBehind 44 = .ok (.return_, 1) := by decide +kernel
theorem dX10_findPieces_0 : decode cX10_findPieces 0 = .ok (.iconst 0, 1) := by decide +kernel
theorem dX10_findPieces_1 : decode cX10_findPieces 1 = .ok (.istore_n 1, 1) := by decide +kernel
theorem dX10_findPieces_2 : decode cX10_findPieces 2 = .ok (.iload_n 1, 1) := by decide +kernel
theorem dX10_findPieces_3 : decode cX10_findPieces 3 = .ok (.aload_n 0, 1) := by decide +kernel
theorem dX10_findPieces_4 : decode cX10_findPieces 4 = .ok (.getfield 178, 3) := by decide +kernel
theorem dX10_findPieces_7 : decode cX10_findPieces 7 = .ok (.if_icmp .ge 21, 3) := by decide +kernel
theorem dX10_findPieces_10 : decode cX10_findPieces 10 = .ok (.aload_n 0, 1) := by decide +kernel
theorem dX10_findPieces_11 : decode cX10_findPieces 11 = .ok (.getfield 50, 3) := by decide +kernel
theorem dX10_findPieces_14 : decode cX10_findPieces 14 = .ok (.aload_n 0, 1) := by decide +kernel
theorem dX10_findPieces_15 : decode cX10_findPieces 15 = .ok (.getfield 46, 3) := by decide +kernel
theorem dX10_findPieces_18 : decode cX10_findPieces 18 = .ok (.iload_n 1, 1) := by decide +kernel
theorem dX10_findPieces_19 : decode cX10_findPieces 19 = .ok (.iaload, 1) := by decide +kernel
theorem dX10_findPieces_20 : decode cX10_findPieces 20 = .ok (.iconst 0, 1) := by decide +kernel
theorem dX10_findPieces_21 : decode cX10_findPieces 21 = .ok (.iastore, 1) := by decide +kernel
theorem dX10_findPieces_22 : decode cX10_findPieces 22 = .ok (.iinc 1 1, 3) := by decide +kernel
theorem dX10_findPieces_25 : decode cX10_findPieces 25 = .ok (.goto (-23), 3) := by decide +kernel
theorem dX10_findPieces_28 : decode cX10_findPieces 28 = .ok (.aload_n 0, 1) := by decide +kernel
theorem dX10_findPieces_29 : decode cX10_findPieces 29 = .ok (.iconst 0, 1) := by decide +kernel
theorem dX10_findPieces_30 : decode cX10_findPieces 30 = .ok (.putfield 175, 3) := by decide +kernel
theorem dX10_findPieces_33 : decode cX10_findPieces 33 = .ok (.aload_n 0, 1) := by decide +kernel
theorem dX10_findPieces_34 : decode cX10_findPieces 34 = .ok (.iconst 0, 1) := by decide +kernel
theorem dX10_findPieces_35 : decode cX10_findPieces 35 = .ok (.putfield 178, 3) := by decide +kernel
theorem dX10_findPieces_38 : decode cX10_findPieces 38 = .ok (.iconst 0, 1) := by decide +kernel
theorem dX10_findPieces_39 : decode cX10_findPieces 39 = .ok (.istore_n 1, 1) := by decide +kernel
theorem dX10_findPieces_40 : decode cX10_findPieces 40 = .ok (.iload_n 1, 1) := by decide +kernel
theorem dX10_findPieces_41 : decode cX10_findPieces 41 = .ok (.sipush 4800, 3) := by decide +kernel
theorem dX10_findPieces_44 : decode cX10_findPieces 44 = .ok (.if_icmp .ge 31, 3) := by decide +kernel
theorem dX10_findPieces_47 : decode cX10_findPieces 47 = .ok (.aload_n 0, 1) := by decide +kernel
theorem dX10_findPieces_48 : decode cX10_findPieces 48 = .ok (.iload_n 1, 1) := by decide +kernel
theorem dX10_findPieces_49 : decode cX10_findPieces 49 = .ok (.aload_n 0, 1) := by decide +kernel
theorem dX10_findPieces_50 : decode cX10_findPieces 50 = .ok (.iload_n 1, 1) := by decide +kernel
theorem dX10_findPieces_51 : decode cX10_findPieces 51 = .ok (.iconst 0, 1) := by decide +kernel
theorem dX10_findPieces_52 : decode cX10_findPieces 52 = .ok (.invokevirtual 181, 3) := by decide +kernel
theorem dX10_findPieces_55 : decode cX10_findPieces 55 = .ok (.invokevirtual 185, 3) := by decide +kernel
theorem dX10_findPieces_58 : decode cX10_findPieces 58 = .ok (.aload_n 0, 1) := by decide +kernel
theorem dX10_findPieces_59 : decode cX10_findPieces 59 = .ok (.iload_n 1, 1) := by decide +kernel
theorem dX10_findPieces_60 : decode cX10_findPieces 60 = .ok (.aload_n 0, 1) := by decide +kernel
theorem dX10_findPieces_61 : decode cX10_findPieces 61 = .ok (.iload_n 1, 1) := by decide +kernel
theorem dX10_findPieces_62 : decode cX10_findPieces 62 = .ok (.iconst 1, 1) := by decide +kernel
theorem dX10_findPieces_63 : decode cX10_findPieces 63 = .ok (.invokevirtual 181, 3) := by decide +kernel
theorem dX10_findPieces_66 : decode cX10_findPieces 66 = .ok (.invokevirtual 189, 3) := by decide +kernel
theorem dX10_findPieces_69 : decode cX10_findPieces 69 = .ok (.iinc 1 1, 3) := by decide +kernel
theorem dX10_findPieces_72 : decode cX10_findPieces 72 = .ok (.goto (-32), 3) := by decide +kernel
theorem dX10_findPieces_75 : decode cX10_findPieces 75 = .ok (.iconst 1, 1) := by decide +kernel
theorem dX10_findPieces_76 : decode cX10_findPieces 76 = .ok (.istore_n 1, 1) := by decide +kernel
theorem dX10_findPieces_77 : decode cX10_findPieces 77 = .ok (.iload_n 1, 1) := by decide +kernel
theorem dX10_findPieces_78 : decode cX10_findPieces 78 = .ok (.iconst 3, 1) := by decide +kernel
theorem dX10_findPieces_79 : decode cX10_findPieces 79 = .ok (.if_icmp .gt 172, 3) := by decide +kernel
theorem dX10_findPieces_82 : decode cX10_findPieces 82 = .ok (.iconst 0, 1) := by decide +kernel
theorem dX10_findPieces_83 : decode cX10_findPieces 83 = .ok (.istore_n 2, 1) := by decide +kernel
theorem dX10_findPieces_84 : decode cX10_findPieces 84 = .ok (.iconst 0, 1) := by decide +kernel
theorem dX10_findPieces_85 : decode cX10_findPieces 85 = .ok (.istore_n 3, 1) := by decide +kernel
theorem dX10_findPieces_86 : decode cX10_findPieces 86 = .ok (.iconst 1, 1) := by decide +kernel
theorem dX10_findPieces_87 : decode cX10_findPieces 87 = .ok (.istore 4, 2) := by decide +kernel
theorem dX10_findPieces_89 : decode cX10_findPieces 89 = .ok (.iconst 0, 1) := by decide +kernel
theorem dX10_findPieces_90 : decode cX10_findPieces 90 = .ok (.istore 5, 2) := by decide +kernel
theorem dX10_findPieces_92 : decode cX10_findPieces 92 = .ok (.iload 5, 2) := by decide +kernel
theorem dX10_findPieces_94 : decode cX10_findPieces 94 = .ok (.aload_n 0, 1) := by decide +kernel
theorem dX10_findPieces_95 : decode cX10_findPieces 95 = .ok (.getfield 164, 3) := by decide +kernel
theorem dX10_findPieces_98 : decode cX10_findPieces 98 = .ok (.if_icmp .ge 77, 3) := by decide +kernel
theorem dX10_findPieces_101 : decode cX10_findPieces 101 = .ok (.iload_n 2, 1) := by decide +kernel
theorem dX10_findPieces_102 : decode cX10_findPieces 102 = .ok (.iload_n 1, 1) := by decide +kernel
theorem dX10_findPieces_103 : decode cX10_findPieces 103 = .ok (.iconst 4, 1) := by decide +kernel
theorem dX10_findPieces_104 : decode cX10_findPieces 104 = .ok (.iload 5, 2) := by decide +kernel
theorem dX10_findPieces_106 : decode cX10_findPieces 106 = .ok (.imul, 1) := by decide +kernel
theorem dX10_findPieces_107 : decode cX10_findPieces 107 = .ok (.ishl, 1) := by decide +kernel
theorem dX10_findPieces_108 : decode cX10_findPieces 108 = .ok (.ior, 1) := by decide +kernel
theorem dX10_findPieces_109 : decode cX10_findPieces 109 = .ok (.istore_n 2, 1) := by decide +kernel
theorem dX10_findPieces_110 : decode cX10_findPieces 110 = .ok (.iload 4, 2) := by decide +kernel
theorem dX10_findPieces_112 : decode cX10_findPieces 112 = .ok (.ifCond .eq 23, 3) := by decide +kernel
theorem dX10_findPieces_115 : decode cX10_findPieces 115 = .ok (.aload_n 0, 1) := by decide +kernel
theorem dX10_findPieces_116 : decode cX10_findPieces 116 = .ok (.getfield 22, 3) := by decide +kernel
theorem dX10_findPieces_119 : decode cX10_findPieces 119 = .ok (.aload_n 0, 1) := by decide +kernel
theorem dX10_findPieces_120 : decode cX10_findPieces 120 = .ok (.getfield 34, 3) := by decide +kernel
theorem dX10_findPieces_123 : decode cX10_findPieces 123 = .ok (.iload 5, 2) := by decide +kernel
theorem dX10_findPieces_125 : decode cX10_findPieces 125 = .ok (.iaload, 1) := by decide +kernel
theorem dX10_findPieces_126 : decode cX10_findPieces 126 = .ok (.iaload, 1) := by decide +kernel
theorem dX10_findPieces_127 : decode cX10_findPieces 127 = .ok (.iload_n 1, 1) := by decide +kernel
theorem dX10_findPieces_128 : decode cX10_findPieces 128 = .ok (.if_icmp .lt 7, 3) := by decide +kernel
theorem dX10_findPieces_131 : decode cX10_findPieces 131 = .ok (.iconst 1, 1) := by decide +kernel
theorem dX10_findPieces_132 : decode cX10_findPieces 132 = .ok (.goto 4, 3) := by decide +kernel
theorem dX10_findPieces_135 : decode cX10_findPieces 135 = .ok (.iconst 0, 1) := by decide +kernel
theorem dX10_findPieces_136 : decode cX10_findPieces 136 = .ok (.istore 4, 2) := by decide +kernel
theorem dX10_findPieces_138 : decode cX10_findPieces 138 = .ok (.iload_n 3, 1) := by decide +kernel
theorem dX10_findPieces_139 : decode cX10_findPieces 139 = .ok (.iload 4, 2) := by decide +kernel
theorem dX10_findPieces_141 : decode cX10_findPieces 141 = .ok (.ifCond .eq 25, 3) := by decide +kernel
theorem dX10_findPieces_144 : decode cX10_findPieces 144 = .ok (.aload_n 0, 1) := by decide +kernel
theorem dX10_findPieces_145 : decode cX10_findPieces 145 = .ok (.getfield 22, 3) := by decide +kernel
theorem dX10_findPieces_148 : decode cX10_findPieces 148 = .ok (.aload_n 0, 1) := by decide +kernel
theorem dX10_findPieces_149 : decode cX10_findPieces 149 = .ok (.getfield 34, 3) := by decide +kernel
theorem dX10_findPieces_152 : decode cX10_findPieces 152 = .ok (.iload 5, 2) := by decide +kernel
theorem dX10_findPieces_154 : decode cX10_findPieces 154 = .ok (.iaload, 1) := by decide +kernel
theorem dX10_findPieces_155 : decode cX10_findPieces 155 = .ok (.iaload, 1) := by decide +kernel
theorem dX10_findPieces_156 : decode cX10_findPieces 156 = .ok (.iload_n 1, 1) := by decide +kernel
theorem dX10_findPieces_157 : decode cX10_findPieces 157 = .ok (.isub, 1) := by decide +kernel
theorem dX10_findPieces_158 : decode cX10_findPieces 158 = .ok (.iconst 4, 1) := by decide +kernel
theorem dX10_findPieces_159 : decode cX10_findPieces 159 = .ok (.iload 5, 2) := by decide +kernel
theorem dX10_findPieces_161 : decode cX10_findPieces 161 = .ok (.imul, 1) := by decide +kernel
theorem dX10_findPieces_162 : decode cX10_findPieces 162 = .ok (.ishl, 1) := by decide +kernel
theorem dX10_findPieces_163 : decode cX10_findPieces 163 = .ok (.goto 4, 3) := by decide +kernel
theorem dX10_findPieces_166 : decode cX10_findPieces 166 = .ok (.iconst 0, 1) := by decide +kernel
theorem dX10_findPieces_167 : decode cX10_findPieces 167 = .ok (.ior, 1) := by decide +kernel
theorem dX10_findPieces_168 : decode cX10_findPieces 168 = .ok (.istore_n 3, 1) := by decide +kernel
theorem dX10_findPieces_169 : decode cX10_findPieces 169 = .ok (.iinc 5 1, 3) := by decide +kernel
theorem dX10_findPieces_172 : decode cX10_findPieces 172 = .ok (.goto (-80), 3) := by decide +kernel
theorem dX10_findPieces_175 : decode cX10_findPieces 175 = .ok (.iload 4, 2) := by decide +kernel
theorem dX10_findPieces_177 : decode cX10_findPieces 177 = .ok (.ifCond .eq 12, 3) := by decide +kernel
theorem dX10_findPieces_180 : decode cX10_findPieces 180 = .ok (.aload_n 0, 1) := by decide +kernel
theorem dX10_findPieces_181 : decode cX10_findPieces 181 = .ok (.iconst 0, 1) := by decide +kernel
theorem dX10_findPieces_182 : decode cX10_findPieces 182 = .ok (.iload_n 1, 1) := by decide +kernel
theorem dX10_findPieces_183 : decode cX10_findPieces 183 = .ok (.invokevirtual 192, 3) := by decide +kernel
theorem dX10_findPieces_186 : decode cX10_findPieces 186 = .ok (.goto 5, 3) := by decide +kernel
theorem dX10_findPieces_189 : decode cX10_findPieces 189 = .ok (.bipush (-4), 2) := by decide +kernel
theorem dX10_findPieces_191 : decode cX10_findPieces 191 = .ok (.istore 5, 2) := by decide +kernel
theorem dX10_findPieces_193 : decode cX10_findPieces 193 = .ok (.aload_n 0, 1) := by decide +kernel
theorem dX10_findPieces_194 : decode cX10_findPieces 194 = .ok (.iload 5, 2) := by decide +kernel
theorem dX10_findPieces_196 : decode cX10_findPieces 196 = .ok (.iload 5, 2) := by decide +kernel
theorem dX10_findPieces_198 : decode cX10_findPieces 198 = .ok (.ifCond .ge 8, 3) := by decide +kernel
theorem dX10_findPieces_201 : decode cX10_findPieces 201 = .ok (.bipush (-4), 2) := by decide +kernel
theorem dX10_findPieces_203 : decode cX10_findPieces 203 = .ok (.goto 4, 3) := by decide +kernel
theorem dX10_findPieces_206 : decode cX10_findPieces 206 = .ok (.iload_n 2, 1) := by decide +kernel
theorem dX10_findPieces_207 : decode cX10_findPieces 207 = .ok (.invokevirtual 185, 3) := by decide +kernel
theorem dX10_findPieces_210 : decode cX10_findPieces 210 = .ok (.iload 4, 2) := by decide +kernel
theorem dX10_findPieces_212 : decode cX10_findPieces 212 = .ok (.ifCond .eq 12, 3) := by decide +kernel
theorem dX10_findPieces_215 : decode cX10_findPieces 215 = .ok (.aload_n 0, 1) := by decide +kernel
theorem dX10_findPieces_216 : decode cX10_findPieces 216 = .ok (.iload_n 3, 1) := by decide +kernel
theorem dX10_findPieces_217 : decode cX10_findPieces 217 = .ok (.iload_n 1, 1) := by decide +kernel
theorem dX10_findPieces_218 : decode cX10_findPieces 218 = .ok (.invokevirtual 192, 3) := by decide +kernel
theorem dX10_findPieces_221 : decode cX10_findPieces 221 = .ok (.goto 5, 3) := by decide +kernel
theorem dX10_findPieces_224 : decode cX10_findPieces 224 = .ok (.bipush (-4), 2) := by decide +kernel
theorem dX10_findPieces_226 : decode cX10_findPieces 226 = .ok (.istore 6, 2) := by decide +kernel
theorem dX10_findPieces_228 : decode cX10_findPieces 228 = .ok (.aload_n 0, 1) := by decide +kernel
theorem dX10_findPieces_229 : decode cX10_findPieces 229 = .ok (.iload 6, 2) := by decide +kernel
theorem dX10_findPieces_231 : decode cX10_findPieces 231 = .ok (.iload 6, 2) := by decide +kernel
theorem dX10_findPieces_233 : decode cX10_findPieces 233 = .ok (.ifCond .ge 8, 3) := by decide +kernel
theorem dX10_findPieces_236 : decode cX10_findPieces 236 = .ok (.bipush (-4), 2) := by decide +kernel
theorem dX10_findPieces_238 : decode cX10_findPieces 238 = .ok (.goto 4, 3) := by decide +kernel
theorem dX10_findPieces_241 : decode cX10_findPieces 241 = .ok (.iload_n 2, 1) := by decide +kernel
theorem dX10_findPieces_242 : decode cX10_findPieces 242 = .ok (.invokevirtual 189, 3) := by decide +kernel
theorem dX10_findPieces_245 : decode cX10_findPieces 245 = .ok (.iinc 1 1, 3) := by decide +kernel
theorem dX10_findPieces_248 : decode cX10_findPieces 248 = .ok (.goto (-171), 3) := by decide +kernel
theorem dX10_findPieces_251 : decode cX10_findPieces 251 = .ok (.return_, 1) := by decide +kernel
theorem dX10_leftOf_0 : decode cX10_leftOf 0 = .ok (.iconst 0, 1) := by decide +kernel
theorem dX10_leftOf_1 : decode cX10_leftOf 1 = .ok (.istore_n 3, 1) := by decide +kernel
theorem dX10_leftOf_2 : decode cX10_leftOf 2 = .ok (.iconst 0, 1) := by decide +kernel
theorem dX10_leftOf_3 : decode cX10_leftOf 3 = .ok (.istore 4, 2) := by decide +kernel
theorem dX10_leftOf_5 : decode cX10_leftOf 5 = .ok (.iload 4, 2) := by decide +kernel
theorem dX10_leftOf_7 : decode cX10_leftOf 7 = .ok (.aload_n 0, 1) := by decide +kernel
theorem dX10_leftOf_8 : decode cX10_leftOf 8 = .ok (.getfield 164, 3) := by decide +kernel
theorem dX10_leftOf_11 : decode cX10_leftOf 11 = .ok (.if_icmp .ge 54, 3) := by decide +kernel
theorem dX10_leftOf_14 : decode cX10_leftOf 14 = .ok (.aload_n 0, 1) := by decide +kernel
theorem dX10_leftOf_15 : decode cX10_leftOf 15 = .ok (.getfield 22, 3) := by decide +kernel
theorem dX10_leftOf_18 : decode cX10_leftOf 18 = .ok (.aload_n 0, 1) := by decide +kernel
theorem dX10_leftOf_19 : decode cX10_leftOf 19 = .ok (.getfield 34, 3) := by decide +kernel
theorem dX10_leftOf_22 : decode cX10_leftOf 22 = .ok (.iload 4, 2) := by decide +kernel
theorem dX10_leftOf_24 : decode cX10_leftOf 24 = .ok (.iaload, 1) := by decide +kernel
theorem dX10_leftOf_25 : decode cX10_leftOf 25 = .ok (.iaload, 1) := by decide +kernel
theorem dX10_leftOf_26 : decode cX10_leftOf 26 = .ok (.iload_n 1, 1) := by decide +kernel
theorem dX10_leftOf_27 : decode cX10_leftOf 27 = .ok (.iconst 4, 1) := by decide +kernel
theorem dX10_leftOf_28 : decode cX10_leftOf 28 = .ok (.iload 4, 2) := by decide +kernel
theorem dX10_leftOf_30 : decode cX10_leftOf 30 = .ok (.imul, 1) := by decide +kernel
theorem dX10_leftOf_31 : decode cX10_leftOf 31 = .ok (.ishr, 1) := by decide +kernel
theorem dX10_leftOf_32 : decode cX10_leftOf 32 = .ok (.bipush 15, 2) := by decide +kernel
theorem dX10_leftOf_34 : decode cX10_leftOf 34 = .ok (.iand, 1) := by decide +kernel
theorem dX10_leftOf_35 : decode cX10_leftOf 35 = .ok (.isub, 1) := by decide +kernel
theorem dX10_leftOf_36 : decode cX10_leftOf 36 = .ok (.iload_n 2, 1) := by decide +kernel
theorem dX10_leftOf_37 : decode cX10_leftOf 37 = .ok (.isub, 1) := by decide +kernel
theorem dX10_leftOf_38 : decode cX10_leftOf 38 = .ok (.istore 5, 2) := by decide +kernel
theorem dX10_leftOf_40 : decode cX10_leftOf 40 = .ok (.iload 5, 2) := by decide +kernel
theorem dX10_leftOf_42 : decode cX10_leftOf 42 = .ok (.iconst 1, 1) := by decide +kernel
theorem dX10_leftOf_43 : decode cX10_leftOf 43 = .ok (.if_icmp .ge 6, 3) := by decide +kernel
theorem dX10_leftOf_46 : decode cX10_leftOf 46 = .ok (.bipush (-4), 2) := by decide +kernel
theorem dX10_leftOf_48 : decode cX10_leftOf 48 = .ok (.ireturn, 1) := by decide +kernel
theorem dX10_leftOf_49 : decode cX10_leftOf 49 = .ok (.iload_n 3, 1) := by decide +kernel
theorem dX10_leftOf_50 : decode cX10_leftOf 50 = .ok (.iload 5, 2) := by decide +kernel
theorem dX10_leftOf_52 : decode cX10_leftOf 52 = .ok (.iconst 4, 1) := by decide +kernel
theorem dX10_leftOf_53 : decode cX10_leftOf 53 = .ok (.iload 4, 2) := by decide +kernel
theorem dX10_leftOf_55 : decode cX10_leftOf 55 = .ok (.imul, 1) := by decide +kernel
theorem dX10_leftOf_56 : decode cX10_leftOf 56 = .ok (.ishl, 1) := by decide +kernel
theorem dX10_leftOf_57 : decode cX10_leftOf 57 = .ok (.ior, 1) := by decide +kernel
theorem dX10_leftOf_58 : decode cX10_leftOf 58 = .ok (.istore_n 3, 1) := by decide +kernel
theorem dX10_leftOf_59 : decode cX10_leftOf 59 = .ok (.iinc 4 1, 3) := by decide +kernel
theorem dX10_leftOf_62 : decode cX10_leftOf 62 = .ok (.goto (-57), 3) := by decide +kernel
theorem dX10_leftOf_65 : decode cX10_leftOf 65 = .ok (.iload_n 3, 1) := by decide +kernel
theorem dX10_leftOf_66 : decode cX10_leftOf 66 = .ok (.ireturn, 1) := by decide +kernel
theorem dX10_isAll_0 : decode cX10_isAll 0 = .ok (.iconst 1, 1) := by decide +kernel
theorem dX10_isAll_1 : decode cX10_isAll 1 = .ok (.istore_n 2, 1) := by decide +kernel
theorem dX10_isAll_2 : decode cX10_isAll 2 = .ok (.iconst 0, 1) := by decide +kernel
theorem dX10_isAll_3 : decode cX10_isAll 3 = .ok (.istore_n 3, 1) := by decide +kernel
theorem dX10_isAll_4 : decode cX10_isAll 4 = .ok (.iload_n 3, 1) := by decide +kernel
theorem dX10_isAll_5 : decode cX10_isAll 5 = .ok (.aload_n 0, 1) := by decide +kernel
theorem dX10_isAll_6 : decode cX10_isAll 6 = .ok (.getfield 164, 3) := by decide +kernel
theorem dX10_isAll_9 : decode cX10_isAll 9 = .ok (.if_icmp .ge 41, 3) := by decide +kernel
theorem dX10_isAll_12 : decode cX10_isAll 12 = .ok (.iload_n 2, 1) := by decide +kernel
theorem dX10_isAll_13 : decode cX10_isAll 13 = .ok (.ifCond .eq 29, 3) := by decide +kernel
theorem dX10_isAll_16 : decode cX10_isAll 16 = .ok (.iload_n 1, 1) := by decide +kernel
theorem dX10_isAll_17 : decode cX10_isAll 17 = .ok (.iconst 4, 1) := by decide +kernel
theorem dX10_isAll_18 : decode cX10_isAll 18 = .ok (.iload_n 3, 1) := by decide +kernel
theorem dX10_isAll_19 : decode cX10_isAll 19 = .ok (.imul, 1) := by decide +kernel
theorem dX10_isAll_20 : decode cX10_isAll 20 = .ok (.ishr, 1) := by decide +kernel
theorem dX10_isAll_21 : decode cX10_isAll 21 = .ok (.bipush 15, 2) := by decide +kernel
theorem dX10_isAll_23 : decode cX10_isAll 23 = .ok (.iand, 1) := by decide +kernel
theorem dX10_isAll_24 : decode cX10_isAll 24 = .ok (.aload_n 0, 1) := by decide +kernel
theorem dX10_isAll_25 : decode cX10_isAll 25 = .ok (.getfield 22, 3) := by decide +kernel
theorem dX10_isAll_28 : decode cX10_isAll 28 = .ok (.aload_n 0, 1) := by decide +kernel
theorem dX10_isAll_29 : decode cX10_isAll 29 = .ok (.getfield 34, 3) := by decide +kernel
theorem dX10_isAll_32 : decode cX10_isAll 32 = .ok (.iload_n 3, 1) := by decide +kernel
theorem dX10_isAll_33 : decode cX10_isAll 33 = .ok (.iaload, 1) := by decide +kernel
theorem dX10_isAll_34 : decode cX10_isAll 34 = .ok (.iaload, 1) := by decide +kernel
theorem dX10_isAll_35 : decode cX10_isAll 35 = .ok (.if_icmp .ne 7, 3) := by decide +kernel
theorem dX10_isAll_38 : decode cX10_isAll 38 = .ok (.iconst 1, 1) := by decide +kernel
theorem dX10_isAll_39 : decode cX10_isAll 39 = .ok (.goto 4, 3) := by decide +kernel
theorem dX10_isAll_42 : decode cX10_isAll 42 = .ok (.iconst 0, 1) := by decide +kernel
theorem dX10_isAll_43 : decode cX10_isAll 43 = .ok (.istore_n 2, 1) := by decide +kernel
theorem dX10_isAll_44 : decode cX10_isAll 44 = .ok (.iinc 3 1, 3) := by decide +kernel
theorem dX10_isAll_47 : decode cX10_isAll 47 = .ok (.goto (-43), 3) := by decide +kernel
theorem dX10_isAll_50 : decode cX10_isAll 50 = .ok (.iload_n 2, 1) := by decide +kernel
theorem dX10_isAll_51 : decode cX10_isAll 51 = .ok (.ireturn, 1) := by decide +kernel
theorem dX10_fittingOf_0 : decode cX10_fittingOf 0 = .ok (.lconst 0, 1) := by decide +kernel
theorem dX10_fittingOf_1 : decode cX10_fittingOf 1 = .ok (.lstore_n 2, 1) := by decide +kernel
theorem dX10_fittingOf_2 : decode cX10_fittingOf 2 = .ok (.iconst 0, 1) := by decide +kernel
theorem dX10_fittingOf_3 : decode cX10_fittingOf 3 = .ok (.istore 4, 2) := by decide +kernel
theorem dX10_fittingOf_5 : decode cX10_fittingOf 5 = .ok (.iload 4, 2) := by decide +kernel
theorem dX10_fittingOf_7 : decode cX10_fittingOf 7 = .ok (.aload_n 0, 1) := by decide +kernel
theorem dX10_fittingOf_8 : decode cX10_fittingOf 8 = .ok (.getfield 175, 3) := by decide +kernel
theorem dX10_fittingOf_11 : decode cX10_fittingOf 11 = .ok (.if_icmp .ge 147, 3) := by decide +kernel
theorem dX10_fittingOf_14 : decode cX10_fittingOf 14 = .ok (.iload_n 1, 1) := by decide +kernel
theorem dX10_fittingOf_15 : decode cX10_fittingOf 15 = .ok (.iconst 1, 1) := by decide +kernel
theorem dX10_fittingOf_16 : decode cX10_fittingOf 16 = .ok (.if_icmp .ne 28, 3) := by decide +kernel
theorem dX10_fittingOf_19 : decode cX10_fittingOf 19 = .ok (.lload_n 2, 1) := by decide +kernel
theorem dX10_fittingOf_20 : decode cX10_fittingOf 20 = .ok (.aload_n 0, 1) := by decide +kernel
theorem dX10_fittingOf_21 : decode cX10_fittingOf 21 = .ok (.aload_n 0, 1) := by decide +kernel
theorem dX10_fittingOf_22 : decode cX10_fittingOf 22 = .ok (.getfield 40, 3) := by decide +kernel
theorem dX10_fittingOf_25 : decode cX10_fittingOf 25 = .ok (.iload 4, 2) := by decide +kernel
theorem dX10_fittingOf_27 : decode cX10_fittingOf 27 = .ok (.iaload, 1) := by decide +kernel
theorem dX10_fittingOf_28 : decode cX10_fittingOf 28 = .ok (.invokevirtual 195, 3) := by decide +kernel
theorem dX10_fittingOf_31 : decode cX10_fittingOf 31 = .ok (.ifCond .eq 7, 3) := by decide +kernel
theorem dX10_fittingOf_34 : decode cX10_fittingOf 34 = .ok (.lconst 1, 1) := by decide +kernel
theorem dX10_fittingOf_35 : decode cX10_fittingOf 35 = .ok (.goto 4, 3) := by decide +kernel
theorem dX10_fittingOf_38 : decode cX10_fittingOf 38 = .ok (.lconst 0, 1) := by decide +kernel
theorem dX10_fittingOf_39 : decode cX10_fittingOf 39 = .ok (.ladd, 1) := by decide +kernel
theorem dX10_fittingOf_40 : decode cX10_fittingOf 40 = .ok (.lstore_n 2, 1) := by decide +kernel
theorem dX10_fittingOf_41 : decode cX10_fittingOf 41 = .ok (.goto 111, 3) := by decide +kernel
theorem dX10_fittingOf_44 : decode cX10_fittingOf 44 = .ok (.iload_n 1, 1) := by decide +kernel
theorem dX10_fittingOf_45 : decode cX10_fittingOf 45 = .ok (.iconst 2, 1) := by decide +kernel
theorem dX10_fittingOf_46 : decode cX10_fittingOf 46 = .ok (.if_icmp .ne 40, 3) := by decide +kernel
theorem dX10_fittingOf_49 : decode cX10_fittingOf 49 = .ok (.aload_n 0, 1) := by decide +kernel
theorem dX10_fittingOf_50 : decode cX10_fittingOf 50 = .ok (.aload_n 0, 1) := by decide +kernel
theorem dX10_fittingOf_51 : decode cX10_fittingOf 51 = .ok (.getfield 40, 3) := by decide +kernel
theorem dX10_fittingOf_54 : decode cX10_fittingOf 54 = .ok (.iload 4, 2) := by decide +kernel
theorem dX10_fittingOf_56 : decode cX10_fittingOf 56 = .ok (.iaload, 1) := by decide +kernel
theorem dX10_fittingOf_57 : decode cX10_fittingOf 57 = .ok (.iconst 0, 1) := by decide +kernel
theorem dX10_fittingOf_58 : decode cX10_fittingOf 58 = .ok (.invokevirtual 198, 3) := by decide +kernel
theorem dX10_fittingOf_61 : decode cX10_fittingOf 61 = .ok (.istore 5, 2) := by decide +kernel
theorem dX10_fittingOf_63 : decode cX10_fittingOf 63 = .ok (.lload_n 2, 1) := by decide +kernel
theorem dX10_fittingOf_64 : decode cX10_fittingOf 64 = .ok (.iload 5, 2) := by decide +kernel
theorem dX10_fittingOf_66 : decode cX10_fittingOf 66 = .ok (.ifCond .ge 7, 3) := by decide +kernel
theorem dX10_fittingOf_69 : decode cX10_fittingOf 69 = .ok (.lconst 0, 1) := by decide +kernel
theorem dX10_fittingOf_70 : decode cX10_fittingOf 70 = .ok (.goto 11, 3) := by decide +kernel
theorem dX10_fittingOf_73 : decode cX10_fittingOf 73 = .ok (.aload_n 0, 1) := by decide +kernel
theorem dX10_fittingOf_74 : decode cX10_fittingOf 74 = .ok (.getfield 50, 3) := by decide +kernel
theorem dX10_fittingOf_77 : decode cX10_fittingOf 77 = .ok (.iload 5, 2) := by decide +kernel
theorem dX10_fittingOf_79 : decode cX10_fittingOf 79 = .ok (.iaload, 1) := by decide +kernel
theorem dX10_fittingOf_80 : decode cX10_fittingOf 80 = .ok (.i2l, 1) := by decide +kernel
theorem dX10_fittingOf_81 : decode cX10_fittingOf 81 = .ok (.ladd, 1) := by decide +kernel
theorem dX10_fittingOf_82 : decode cX10_fittingOf 82 = .ok (.lstore_n 2, 1) := by decide +kernel
theorem dX10_fittingOf_83 : decode cX10_fittingOf 83 = .ok (.goto 69, 3) := by decide +kernel
theorem dX10_fittingOf_86 : decode cX10_fittingOf 86 = .ok (.iconst 1, 1) := by decide +kernel
theorem dX10_fittingOf_87 : decode cX10_fittingOf 87 = .ok (.istore 5, 2) := by decide +kernel
theorem dX10_fittingOf_89 : decode cX10_fittingOf 89 = .ok (.iload 5, 2) := by decide +kernel
theorem dX10_fittingOf_91 : decode cX10_fittingOf 91 = .ok (.iconst 3, 1) := by decide +kernel
theorem dX10_fittingOf_92 : decode cX10_fittingOf 92 = .ok (.if_icmp .gt 60, 3) := by decide +kernel
theorem dX10_fittingOf_95 : decode cX10_fittingOf 95 = .ok (.aload_n 0, 1) := by decide +kernel
theorem dX10_fittingOf_96 : decode cX10_fittingOf 96 = .ok (.aload_n 0, 1) := by decide +kernel
theorem dX10_fittingOf_97 : decode cX10_fittingOf 97 = .ok (.getfield 40, 3) := by decide +kernel
theorem dX10_fittingOf_100 : decode cX10_fittingOf 100 = .ok (.iload 4, 2) := by decide +kernel
theorem dX10_fittingOf_102 : decode cX10_fittingOf 102 = .ok (.iaload, 1) := by decide +kernel
theorem dX10_fittingOf_103 : decode cX10_fittingOf 103 = .ok (.iload 5, 2) := by decide +kernel
theorem dX10_fittingOf_105 : decode cX10_fittingOf 105 = .ok (.invokevirtual 198, 3) := by decide +kernel
theorem dX10_fittingOf_108 : decode cX10_fittingOf 108 = .ok (.istore 6, 2) := by decide +kernel
theorem dX10_fittingOf_110 : decode cX10_fittingOf 110 = .ok (.lload_n 2, 1) := by decide +kernel
theorem dX10_fittingOf_111 : decode cX10_fittingOf 111 = .ok (.iload 6, 2) := by decide +kernel
theorem dX10_fittingOf_113 : decode cX10_fittingOf 113 = .ok (.ifCond .lt 19, 3) := by decide +kernel
theorem dX10_fittingOf_116 : decode cX10_fittingOf 116 = .ok (.aload_n 0, 1) := by decide +kernel
theorem dX10_fittingOf_117 : decode cX10_fittingOf 117 = .ok (.aload_n 0, 1) := by decide +kernel
theorem dX10_fittingOf_118 : decode cX10_fittingOf 118 = .ok (.getfield 40, 3) := by decide +kernel
theorem dX10_fittingOf_121 : decode cX10_fittingOf 121 = .ok (.iload 4, 2) := by decide +kernel
theorem dX10_fittingOf_123 : decode cX10_fittingOf 123 = .ok (.iaload, 1) := by decide +kernel
theorem dX10_fittingOf_124 : decode cX10_fittingOf 124 = .ok (.iload 5, 2) := by decide +kernel
theorem dX10_fittingOf_126 : decode cX10_fittingOf 126 = .ok (.invokevirtual 192, 3) := by decide +kernel
theorem dX10_fittingOf_129 : decode cX10_fittingOf 129 = .ok (.ifCond .ge 7, 3) := by decide +kernel
theorem dX10_fittingOf_132 : decode cX10_fittingOf 132 = .ok (.lconst 0, 1) := by decide +kernel
theorem dX10_fittingOf_133 : decode cX10_fittingOf 133 = .ok (.goto 11, 3) := by decide +kernel
theorem dX10_fittingOf_136 : decode cX10_fittingOf 136 = .ok (.aload_n 0, 1) := by decide +kernel
theorem dX10_fittingOf_137 : decode cX10_fittingOf 137 = .ok (.getfield 50, 3) := by decide +kernel
theorem dX10_fittingOf_140 : decode cX10_fittingOf 140 = .ok (.iload 6, 2) := by decide +kernel
theorem dX10_fittingOf_142 : decode cX10_fittingOf 142 = .ok (.iaload, 1) := by decide +kernel
theorem dX10_fittingOf_143 : decode cX10_fittingOf 143 = .ok (.i2l, 1) := by decide +kernel
theorem dX10_fittingOf_144 : decode cX10_fittingOf 144 = .ok (.ladd, 1) := by decide +kernel
theorem dX10_fittingOf_145 : decode cX10_fittingOf 145 = .ok (.lstore_n 2, 1) := by decide +kernel
theorem dX10_fittingOf_146 : decode cX10_fittingOf 146 = .ok (.iinc 5 1, 3) := by decide +kernel
theorem dX10_fittingOf_149 : decode cX10_fittingOf 149 = .ok (.goto (-60), 3) := by decide +kernel
theorem dX10_fittingOf_152 : decode cX10_fittingOf 152 = .ok (.iinc 4 1, 3) := by decide +kernel
theorem dX10_fittingOf_155 : decode cX10_fittingOf 155 = .ok (.goto (-150), 3) := by decide +kernel
theorem dX10_fittingOf_158 : decode cX10_fittingOf 158 = .ok (.lload_n 2, 1) := by decide +kernel
theorem dX10_fittingOf_159 : decode cX10_fittingOf 159 = .ok (.lreturn, 1) := by decide +kernel
theorem dX10_fitting_0 : decode cX10_fitting 0 = .ok (.iload_n 1, 1) := by decide +kernel
theorem dX10_fitting_1 : decode cX10_fitting 1 = .ok (.i2l, 1) := by decide +kernel
theorem dX10_fitting_2 : decode cX10_fitting 2 = .ok (.lconst 0, 1) := by decide +kernel
theorem dX10_fitting_3 : decode cX10_fitting 3 = .ok (.ldc2_w 201, 3) := by decide +kernel
theorem dX10_fitting_6 : decode cX10_fitting 6 = .ok (.invokestatic 84, 3) := by decide +kernel
theorem dX10_fitting_9 : decode cX10_fitting 9 = .ok (.ifCond .ne 7, 3) := by decide +kernel
theorem dX10_fitting_12 : decode cX10_fitting 12 = .ok (.ldc2_w 109, 3) := by decide +kernel
theorem dX10_fitting_15 : decode cX10_fitting 15 = .ok (.lreturn, 1) := by decide +kernel
theorem dX10_fitting_16 : decode cX10_fitting 16 = .ok (.aload_n 0, 1) := by decide +kernel
theorem dX10_fitting_17 : decode cX10_fitting 17 = .ok (.iconst 1, 1) := by decide +kernel
theorem dX10_fitting_18 : decode cX10_fitting 18 = .ok (.invokevirtual 169, 3) := by decide +kernel
theorem dX10_fitting_21 : decode cX10_fitting 21 = .ok (.ifCond .ne 7, 3) := by decide +kernel
theorem dX10_fitting_24 : decode cX10_fitting 24 = .ok (.ldc2_w 203, 3) := by decide +kernel
theorem dX10_fitting_27 : decode cX10_fitting 27 = .ok (.lreturn, 1) := by decide +kernel
theorem dX10_fitting_28 : decode cX10_fitting 28 = .ok (.aload_n 0, 1) := by decide +kernel
theorem dX10_fitting_29 : decode cX10_fitting 29 = .ok (.iconst 0, 1) := by decide +kernel
theorem dX10_fitting_30 : decode cX10_fitting 30 = .ok (.invokevirtual 205, 3) := by decide +kernel
theorem dX10_fitting_33 : decode cX10_fitting 33 = .ok (.aload_n 0, 1) := by decide +kernel
theorem dX10_fitting_34 : decode cX10_fitting 34 = .ok (.invokevirtual 209, 3) := by decide +kernel
theorem dX10_fitting_37 : decode cX10_fitting 37 = .ok (.iload_n 1, 1) := by decide +kernel
theorem dX10_fitting_38 : decode cX10_fitting 38 = .ok (.ifCond .le 11, 3) := by decide +kernel
theorem dX10_fitting_41 : decode cX10_fitting 41 = .ok (.aload_n 0, 1) := by decide +kernel
theorem dX10_fitting_42 : decode cX10_fitting 42 = .ok (.iload_n 1, 1) := by decide +kernel
theorem dX10_fitting_43 : decode cX10_fitting 43 = .ok (.invokevirtual 212, 3) := by decide +kernel
theorem dX10_fitting_46 : decode cX10_fitting 46 = .ok (.goto 20, 3) := by decide +kernel
theorem dX10_fitting_49 : decode cX10_fitting 49 = .ok (.aload_n 0, 1) := by decide +kernel
theorem dX10_fitting_50 : decode cX10_fitting 50 = .ok (.iconst 1, 1) := by decide +kernel
theorem dX10_fitting_51 : decode cX10_fitting 51 = .ok (.invokevirtual 212, 3) := by decide +kernel
theorem dX10_fitting_54 : decode cX10_fitting 54 = .ok (.aload_n 0, 1) := by decide +kernel
theorem dX10_fitting_55 : decode cX10_fitting 55 = .ok (.iconst 2, 1) := by decide +kernel
theorem dX10_fitting_56 : decode cX10_fitting 56 = .ok (.invokevirtual 212, 3) := by decide +kernel
theorem dX10_fitting_59 : decode cX10_fitting 59 = .ok (.ladd, 1) := by decide +kernel
theorem dX10_fitting_60 : decode cX10_fitting 60 = .ok (.aload_n 0, 1) := by decide +kernel
theorem dX10_fitting_61 : decode cX10_fitting 61 = .ok (.iconst 3, 1) := by decide +kernel
theorem dX10_fitting_62 : decode cX10_fitting 62 = .ok (.invokevirtual 212, 3) := by decide +kernel
theorem dX10_fitting_65 : decode cX10_fitting 65 = .ok (.ladd, 1) := by decide +kernel
theorem dX10_fitting_66 : decode cX10_fitting 66 = .ok (.lreturn, 1) := by decide +kernel
theorem dX10_noteNear_0 : decode cX10_noteNear 0 = .ok (.aload_n 0, 1) := by decide +kernel
theorem dX10_noteNear_1 : decode cX10_noteNear 1 = .ok (.getfield 216, 3) := by decide +kernel
theorem dX10_noteNear_4 : decode cX10_noteNear 4 = .ok (.bipush 64, 2) := by decide +kernel
theorem dX10_noteNear_6 : decode cX10_noteNear 6 = .ok (.if_icmp .ge 53, 3) := by decide +kernel
theorem dX10_noteNear_9 : decode cX10_noteNear 9 = .ok (.aload_n 0, 1) := by decide +kernel
theorem dX10_noteNear_10 : decode cX10_noteNear 10 = .ok (.getfield 53, 3) := by decide +kernel
theorem dX10_noteNear_13 : decode cX10_noteNear 13 = .ok (.iconst 3, 1) := by decide +kernel
theorem dX10_noteNear_14 : decode cX10_noteNear 14 = .ok (.aload_n 0, 1) := by decide +kernel
theorem dX10_noteNear_15 : decode cX10_noteNear 15 = .ok (.getfield 216, 3) := by decide +kernel
theorem dX10_noteNear_18 : decode cX10_noteNear 18 = .ok (.imul, 1) := by decide +kernel
theorem dX10_noteNear_19 : decode cX10_noteNear 19 = .ok (.iload_n 1, 1) := by decide +kernel
theorem dX10_noteNear_20 : decode cX10_noteNear 20 = .ok (.iastore, 1) := by decide +kernel
theorem dX10_noteNear_21 : decode cX10_noteNear 21 = .ok (.aload_n 0, 1) := by decide +kernel
theorem dX10_noteNear_22 : decode cX10_noteNear 22 = .ok (.getfield 53, 3) := by decide +kernel
theorem dX10_noteNear_25 : decode cX10_noteNear 25 = .ok (.iconst 3, 1) := by decide +kernel
theorem dX10_noteNear_26 : decode cX10_noteNear 26 = .ok (.aload_n 0, 1) := by decide +kernel
theorem dX10_noteNear_27 : decode cX10_noteNear 27 = .ok (.getfield 216, 3) := by decide +kernel
theorem dX10_noteNear_30 : decode cX10_noteNear 30 = .ok (.imul, 1) := by decide +kernel
theorem dX10_noteNear_31 : decode cX10_noteNear 31 = .ok (.iconst 1, 1) := by decide +kernel
theorem dX10_noteNear_32 : decode cX10_noteNear 32 = .ok (.iadd, 1) := by decide +kernel
theorem dX10_noteNear_33 : decode cX10_noteNear 33 = .ok (.iload_n 2, 1) := by decide +kernel
theorem dX10_noteNear_34 : decode cX10_noteNear 34 = .ok (.iastore, 1) := by decide +kernel
theorem dX10_noteNear_35 : decode cX10_noteNear 35 = .ok (.aload_n 0, 1) := by decide +kernel
theorem dX10_noteNear_36 : decode cX10_noteNear 36 = .ok (.getfield 53, 3) := by decide +kernel
theorem dX10_noteNear_39 : decode cX10_noteNear 39 = .ok (.iconst 3, 1) := by decide +kernel
theorem dX10_noteNear_40 : decode cX10_noteNear 40 = .ok (.aload_n 0, 1) := by decide +kernel
theorem dX10_noteNear_41 : decode cX10_noteNear 41 = .ok (.getfield 216, 3) := by decide +kernel
theorem dX10_noteNear_44 : decode cX10_noteNear 44 = .ok (.imul, 1) := by decide +kernel
theorem dX10_noteNear_45 : decode cX10_noteNear 45 = .ok (.iconst 2, 1) := by decide +kernel
theorem dX10_noteNear_46 : decode cX10_noteNear 46 = .ok (.iadd, 1) := by decide +kernel
theorem dX10_noteNear_47 : decode cX10_noteNear 47 = .ok (.iload_n 3, 1) := by decide +kernel
theorem dX10_noteNear_48 : decode cX10_noteNear 48 = .ok (.iastore, 1) := by decide +kernel
theorem dX10_noteNear_49 : decode cX10_noteNear 49 = .ok (.aload_n 0, 1) := by decide +kernel
theorem dX10_noteNear_50 : decode cX10_noteNear 50 = .ok (.dup, 1) := by decide +kernel
theorem dX10_noteNear_51 : decode cX10_noteNear 51 = .ok (.getfield 216, 3) := by decide +kernel
theorem dX10_noteNear_54 : decode cX10_noteNear 54 = .ok (.iconst 1, 1) := by decide +kernel
theorem dX10_noteNear_55 : decode cX10_noteNear 55 = .ok (.iadd, 1) := by decide +kernel
theorem dX10_noteNear_56 : decode cX10_noteNear 56 = .ok (.putfield 216, 3) := by decide +kernel
theorem dX10_noteNear_59 : decode cX10_noteNear 59 = .ok (.return_, 1) := by decide +kernel
theorem dX10_noteWith_0 : decode cX10_noteWith 0 = .ok (.iload_n 3, 1) := by decide +kernel
theorem dX10_noteWith_1 : decode cX10_noteWith 1 = .ok (.ifCond .lt 12, 3) := by decide +kernel
theorem dX10_noteWith_4 : decode cX10_noteWith 4 = .ok (.aload_n 0, 1) := by decide +kernel
theorem dX10_noteWith_5 : decode cX10_noteWith 5 = .ok (.getfield 50, 3) := by decide +kernel
theorem dX10_noteWith_8 : decode cX10_noteWith 8 = .ok (.iload_n 3, 1) := by decide +kernel
theorem dX10_noteWith_9 : decode cX10_noteWith 9 = .ok (.iaload, 1) := by decide +kernel
theorem dX10_noteWith_10 : decode cX10_noteWith 10 = .ok (.ifCond .ne 4, 3) := by decide +kernel
theorem dX10_noteWith_13 : decode cX10_noteWith 13 = .ok (.return_, 1) := by decide +kernel
theorem dX10_noteWith_14 : decode cX10_noteWith 14 = .ok (.iconst 0, 1) := by decide +kernel
theorem dX10_noteWith_15 : decode cX10_noteWith 15 = .ok (.istore 5, 2) := by decide +kernel
theorem dX10_noteWith_17 : decode cX10_noteWith 17 = .ok (.iload 5, 2) := by decide +kernel
theorem dX10_noteWith_19 : decode cX10_noteWith 19 = .ok (.aload_n 0, 1) := by decide +kernel
theorem dX10_noteWith_20 : decode cX10_noteWith 20 = .ok (.getfield 178, 3) := by decide +kernel
theorem dX10_noteWith_23 : decode cX10_noteWith 23 = .ok (.if_icmp .ge 87, 3) := by decide +kernel
theorem dX10_noteWith_26 : decode cX10_noteWith 26 = .ok (.aload_n 0, 1) := by decide +kernel
theorem dX10_noteWith_27 : decode cX10_noteWith 27 = .ok (.getfield 216, 3) := by decide +kernel
theorem dX10_noteWith_30 : decode cX10_noteWith 30 = .ok (.bipush 64, 2) := by decide +kernel
theorem dX10_noteWith_32 : decode cX10_noteWith 32 = .ok (.if_icmp .ge 78, 3) := by decide +kernel
theorem dX10_noteWith_35 : decode cX10_noteWith 35 = .ok (.aload_n 0, 1) := by decide +kernel
theorem dX10_noteWith_36 : decode cX10_noteWith 36 = .ok (.getfield 46, 3) := by decide +kernel
theorem dX10_noteWith_39 : decode cX10_noteWith 39 = .ok (.iload 5, 2) := by decide +kernel
theorem dX10_noteWith_41 : decode cX10_noteWith 41 = .ok (.iaload, 1) := by decide +kernel
theorem dX10_noteWith_42 : decode cX10_noteWith 42 = .ok (.iload_n 3, 1) := by decide +kernel
theorem dX10_noteWith_43 : decode cX10_noteWith 43 = .ok (.if_icmp .ne 61, 3) := by decide +kernel
theorem dX10_noteWith_46 : decode cX10_noteWith 46 = .ok (.aload_n 0, 1) := by decide +kernel
theorem dX10_noteWith_47 : decode cX10_noteWith 47 = .ok (.getfield 43, 3) := by decide +kernel
theorem dX10_noteWith_50 : decode cX10_noteWith 50 = .ok (.iload 5, 2) := by decide +kernel
theorem dX10_noteWith_52 : decode cX10_noteWith 52 = .ok (.iaload, 1) := by decide +kernel
theorem dX10_noteWith_53 : decode cX10_noteWith 53 = .ok (.invokestatic 219, 3) := by decide +kernel
theorem dX10_noteWith_56 : decode cX10_noteWith 56 = .ok (.iload 4, 2) := by decide +kernel
theorem dX10_noteWith_58 : decode cX10_noteWith 58 = .ok (.if_icmp .ne 46, 3) := by decide +kernel
theorem dX10_noteWith_61 : decode cX10_noteWith 61 = .ok (.iload_n 2, 1) := by decide +kernel
theorem dX10_noteWith_62 : decode cX10_noteWith 62 = .ok (.ifCond .ge 24, 3) := by decide +kernel
theorem dX10_noteWith_65 : decode cX10_noteWith 65 = .ok (.aload_n 0, 1) := by decide +kernel
theorem dX10_noteWith_66 : decode cX10_noteWith 66 = .ok (.aload_n 0, 1) := by decide +kernel
theorem dX10_noteWith_67 : decode cX10_noteWith 67 = .ok (.getfield 37, 3) := by decide +kernel
theorem dX10_noteWith_70 : decode cX10_noteWith 70 = .ok (.iload_n 1, 1) := by decide +kernel
theorem dX10_noteWith_71 : decode cX10_noteWith 71 = .ok (.iaload, 1) := by decide +kernel
theorem dX10_noteWith_72 : decode cX10_noteWith 72 = .ok (.aload_n 0, 1) := by decide +kernel
theorem dX10_noteWith_73 : decode cX10_noteWith 73 = .ok (.getfield 43, 3) := by decide +kernel
theorem dX10_noteWith_76 : decode cX10_noteWith 76 = .ok (.iload 5, 2) := by decide +kernel
theorem dX10_noteWith_78 : decode cX10_noteWith 78 = .ok (.iaload, 1) := by decide +kernel
theorem dX10_noteWith_79 : decode cX10_noteWith 79 = .ok (.iconst (-1), 1) := by decide +kernel
theorem dX10_noteWith_80 : decode cX10_noteWith 80 = .ok (.invokevirtual 222, 3) := by decide +kernel
theorem dX10_noteWith_83 : decode cX10_noteWith 83 = .ok (.goto 21, 3) := by decide +kernel
theorem dX10_noteWith_86 : decode cX10_noteWith 86 = .ok (.aload_n 0, 1) := by decide +kernel
theorem dX10_noteWith_87 : decode cX10_noteWith 87 = .ok (.aload_n 0, 1) := by decide +kernel
theorem dX10_noteWith_88 : decode cX10_noteWith 88 = .ok (.getfield 37, 3) := by decide +kernel
theorem dX10_noteWith_91 : decode cX10_noteWith 91 = .ok (.iload_n 1, 1) := by decide +kernel
theorem dX10_noteWith_92 : decode cX10_noteWith 92 = .ok (.iaload, 1) := by decide +kernel
theorem dX10_noteWith_93 : decode cX10_noteWith 93 = .ok (.iload_n 2, 1) := by decide +kernel
theorem dX10_noteWith_94 : decode cX10_noteWith 94 = .ok (.aload_n 0, 1) := by decide +kernel
theorem dX10_noteWith_95 : decode cX10_noteWith 95 = .ok (.getfield 43, 3) := by decide +kernel
theorem dX10_noteWith_98 : decode cX10_noteWith 98 = .ok (.iload 5, 2) := by decide +kernel
theorem dX10_noteWith_100 : decode cX10_noteWith 100 = .ok (.iaload, 1) := by decide +kernel
theorem dX10_noteWith_101 : decode cX10_noteWith 101 = .ok (.invokevirtual 222, 3) := by decide +kernel
theorem dX10_noteWith_104 : decode cX10_noteWith 104 = .ok (.iinc 5 1, 3) := by decide +kernel
theorem dX10_noteWith_107 : decode cX10_noteWith 107 = .ok (.goto (-90), 3) := by decide +kernel
theorem dX10_noteWith_110 : decode cX10_noteWith 110 = .ok (.return_, 1) := by decide +kernel
theorem dX10_findNearest_0 : decode cX10_findNearest 0 = .ok (.aload_n 0, 1) := by decide +kernel
theorem dX10_findNearest_1 : decode cX10_findNearest 1 = .ok (.iconst 0, 1) := by decide +kernel
theorem dX10_findNearest_2 : decode cX10_findNearest 2 = .ok (.invokevirtual 205, 3) := by decide +kernel
theorem dX10_findNearest_5 : decode cX10_findNearest 5 = .ok (.aload_n 0, 1) := by decide +kernel
theorem dX10_findNearest_6 : decode cX10_findNearest 6 = .ok (.invokevirtual 209, 3) := by decide +kernel
theorem dX10_findNearest_9 : decode cX10_findNearest 9 = .ok (.aload_n 0, 1) := by decide +kernel
theorem dX10_findNearest_10 : decode cX10_findNearest 10 = .ok (.iconst 0, 1) := by decide +kernel
theorem dX10_findNearest_11 : decode cX10_findNearest 11 = .ok (.putfield 216, 3) := by decide +kernel
theorem dX10_findNearest_14 : decode cX10_findNearest 14 = .ok (.iconst 3, 1) := by decide +kernel
theorem dX10_findNearest_15 : decode cX10_findNearest 15 = .ok (.istore_n 1, 1) := by decide +kernel
theorem dX10_findNearest_16 : decode cX10_findNearest 16 = .ok (.iload_n 1, 1) := by decide +kernel
theorem dX10_findNearest_17 : decode cX10_findNearest 17 = .ok (.bipush 15, 2) := by decide +kernel
theorem dX10_findNearest_19 : decode cX10_findNearest 19 = .ok (.if_icmp .gt 214, 3) := by decide +kernel
theorem dX10_findNearest_22 : decode cX10_findNearest 22 = .ok (.aload_n 0, 1) := by decide +kernel
theorem dX10_findNearest_23 : decode cX10_findNearest 23 = .ok (.getfield 216, 3) := by decide +kernel
theorem dX10_findNearest_26 : decode cX10_findNearest 26 = .ok (.bipush 64, 2) := by decide +kernel
theorem dX10_findNearest_28 : decode cX10_findNearest 28 = .ok (.if_icmp .ge 205, 3) := by decide +kernel
theorem dX10_findNearest_31 : decode cX10_findNearest 31 = .ok (.iconst 0, 1) := by decide +kernel
theorem dX10_findNearest_32 : decode cX10_findNearest 32 = .ok (.istore_n 2, 1) := by decide +kernel
theorem dX10_findNearest_33 : decode cX10_findNearest 33 = .ok (.iload_n 2, 1) := by decide +kernel
theorem dX10_findNearest_34 : decode cX10_findNearest 34 = .ok (.aload_n 0, 1) := by decide +kernel
theorem dX10_findNearest_35 : decode cX10_findNearest 35 = .ok (.getfield 175, 3) := by decide +kernel
theorem dX10_findNearest_38 : decode cX10_findNearest 38 = .ok (.if_icmp .ge 47, 3) := by decide +kernel
theorem dX10_findNearest_41 : decode cX10_findNearest 41 = .ok (.aload_n 0, 1) := by decide +kernel
theorem dX10_findNearest_42 : decode cX10_findNearest 42 = .ok (.aload_n 0, 1) := by decide +kernel
theorem dX10_findNearest_43 : decode cX10_findNearest 43 = .ok (.getfield 40, 3) := by decide +kernel
theorem dX10_findNearest_46 : decode cX10_findNearest 46 = .ok (.iload_n 2, 1) := by decide +kernel
theorem dX10_findNearest_47 : decode cX10_findNearest 47 = .ok (.iaload, 1) := by decide +kernel
theorem dX10_findNearest_48 : decode cX10_findNearest 48 = .ok (.invokevirtual 195, 3) := by decide +kernel
theorem dX10_findNearest_51 : decode cX10_findNearest 51 = .ok (.ifCond .eq 28, 3) := by decide +kernel
theorem dX10_findNearest_54 : decode cX10_findNearest 54 = .ok (.aload_n 0, 1) := by decide +kernel
theorem dX10_findNearest_55 : decode cX10_findNearest 55 = .ok (.getfield 37, 3) := by decide +kernel
theorem dX10_findNearest_58 : decode cX10_findNearest 58 = .ok (.iload_n 2, 1) := by decide +kernel
theorem dX10_findNearest_59 : decode cX10_findNearest 59 = .ok (.iaload, 1) := by decide +kernel
theorem dX10_findNearest_60 : decode cX10_findNearest 60 = .ok (.invokestatic 219, 3) := by decide +kernel
theorem dX10_findNearest_63 : decode cX10_findNearest 63 = .ok (.iload_n 1, 1) := by decide +kernel
theorem dX10_findNearest_64 : decode cX10_findNearest 64 = .ok (.if_icmp .ne 15, 3) := by decide +kernel
theorem dX10_findNearest_67 : decode cX10_findNearest 67 = .ok (.aload_n 0, 1) := by decide +kernel
theorem dX10_findNearest_68 : decode cX10_findNearest 68 = .ok (.aload_n 0, 1) := by decide +kernel
theorem dX10_findNearest_69 : decode cX10_findNearest 69 = .ok (.getfield 37, 3) := by decide +kernel
theorem dX10_findNearest_72 : decode cX10_findNearest 72 = .ok (.iload_n 2, 1) := by decide +kernel
theorem dX10_findNearest_73 : decode cX10_findNearest 73 = .ok (.iaload, 1) := by decide +kernel
theorem dX10_findNearest_74 : decode cX10_findNearest 74 = .ok (.iconst (-1), 1) := by decide +kernel
theorem dX10_findNearest_75 : decode cX10_findNearest 75 = .ok (.iconst (-1), 1) := by decide +kernel
theorem dX10_findNearest_76 : decode cX10_findNearest 76 = .ok (.invokevirtual 222, 3) := by decide +kernel
theorem dX10_findNearest_79 : decode cX10_findNearest 79 = .ok (.iinc 2 1, 3) := by decide +kernel
theorem dX10_findNearest_82 : decode cX10_findNearest 82 = .ok (.goto (-49), 3) := by decide +kernel
theorem dX10_findNearest_85 : decode cX10_findNearest 85 = .ok (.iconst 0, 1) := by decide +kernel
theorem dX10_findNearest_86 : decode cX10_findNearest 86 = .ok (.istore_n 2, 1) := by decide +kernel
theorem dX10_findNearest_87 : decode cX10_findNearest 87 = .ok (.iload_n 2, 1) := by decide +kernel
theorem dX10_findNearest_88 : decode cX10_findNearest 88 = .ok (.aload_n 0, 1) := by decide +kernel
theorem dX10_findNearest_89 : decode cX10_findNearest 89 = .ok (.getfield 175, 3) := by decide +kernel
theorem dX10_findNearest_92 : decode cX10_findNearest 92 = .ok (.if_icmp .ge 46, 3) := by decide +kernel
theorem dX10_findNearest_95 : decode cX10_findNearest 95 = .ok (.aload_n 0, 1) := by decide +kernel
theorem dX10_findNearest_96 : decode cX10_findNearest 96 = .ok (.getfield 216, 3) := by decide +kernel
theorem dX10_findNearest_99 : decode cX10_findNearest 99 = .ok (.bipush 64, 2) := by decide +kernel
theorem dX10_findNearest_101 : decode cX10_findNearest 101 = .ok (.if_icmp .ge 37, 3) := by decide +kernel
theorem dX10_findNearest_104 : decode cX10_findNearest 104 = .ok (.aload_n 0, 1) := by decide +kernel
theorem dX10_findNearest_105 : decode cX10_findNearest 105 = .ok (.iload_n 2, 1) := by decide +kernel
theorem dX10_findNearest_106 : decode cX10_findNearest 106 = .ok (.iconst (-1), 1) := by decide +kernel
theorem dX10_findNearest_107 : decode cX10_findNearest 107 = .ok (.aload_n 0, 1) := by decide +kernel
theorem dX10_findNearest_108 : decode cX10_findNearest 108 = .ok (.aload_n 0, 1) := by decide +kernel
theorem dX10_findNearest_109 : decode cX10_findNearest 109 = .ok (.getfield 40, 3) := by decide +kernel
theorem dX10_findNearest_112 : decode cX10_findNearest 112 = .ok (.iload_n 2, 1) := by decide +kernel
theorem dX10_findNearest_113 : decode cX10_findNearest 113 = .ok (.iaload, 1) := by decide +kernel
theorem dX10_findNearest_114 : decode cX10_findNearest 114 = .ok (.iconst 0, 1) := by decide +kernel
theorem dX10_findNearest_115 : decode cX10_findNearest 115 = .ok (.invokevirtual 198, 3) := by decide +kernel
theorem dX10_findNearest_118 : decode cX10_findNearest 118 = .ok (.iload_n 1, 1) := by decide +kernel
theorem dX10_findNearest_119 : decode cX10_findNearest 119 = .ok (.aload_n 0, 1) := by decide +kernel
theorem dX10_findNearest_120 : decode cX10_findNearest 120 = .ok (.getfield 37, 3) := by decide +kernel
theorem dX10_findNearest_123 : decode cX10_findNearest 123 = .ok (.iload_n 2, 1) := by decide +kernel
theorem dX10_findNearest_124 : decode cX10_findNearest 124 = .ok (.iaload, 1) := by decide +kernel
theorem dX10_findNearest_125 : decode cX10_findNearest 125 = .ok (.invokestatic 219, 3) := by decide +kernel
theorem dX10_findNearest_128 : decode cX10_findNearest 128 = .ok (.isub, 1) := by decide +kernel
theorem dX10_findNearest_129 : decode cX10_findNearest 129 = .ok (.invokevirtual 226, 3) := by decide +kernel
theorem dX10_findNearest_132 : decode cX10_findNearest 132 = .ok (.iinc 2 1, 3) := by decide +kernel
theorem dX10_findNearest_135 : decode cX10_findNearest 135 = .ok (.goto (-48), 3) := by decide +kernel
theorem dX10_findNearest_138 : decode cX10_findNearest 138 = .ok (.iconst 0, 1) := by decide +kernel
theorem dX10_findNearest_139 : decode cX10_findNearest 139 = .ok (.istore_n 2, 1) := by decide +kernel
theorem dX10_findNearest_140 : decode cX10_findNearest 140 = .ok (.iload_n 2, 1) := by decide +kernel
theorem dX10_findNearest_141 : decode cX10_findNearest 141 = .ok (.aload_n 0, 1) := by decide +kernel
theorem dX10_findNearest_142 : decode cX10_findNearest 142 = .ok (.getfield 175, 3) := by decide +kernel
theorem dX10_findNearest_145 : decode cX10_findNearest 145 = .ok (.if_icmp .ge 82, 3) := by decide +kernel
theorem dX10_findNearest_148 : decode cX10_findNearest 148 = .ok (.aload_n 0, 1) := by decide +kernel
theorem dX10_findNearest_149 : decode cX10_findNearest 149 = .ok (.getfield 216, 3) := by decide +kernel
theorem dX10_findNearest_152 : decode cX10_findNearest 152 = .ok (.bipush 64, 2) := by decide +kernel
theorem dX10_findNearest_154 : decode cX10_findNearest 154 = .ok (.if_icmp .ge 73, 3) := by decide +kernel
theorem dX10_findNearest_157 : decode cX10_findNearest 157 = .ok (.iconst 1, 1) := by decide +kernel
theorem dX10_findNearest_158 : decode cX10_findNearest 158 = .ok (.istore_n 3, 1) := by decide +kernel
theorem dX10_findNearest_159 : decode cX10_findNearest 159 = .ok (.iload_n 3, 1) := by decide +kernel
theorem dX10_findNearest_160 : decode cX10_findNearest 160 = .ok (.iconst 3, 1) := by decide +kernel
theorem dX10_findNearest_161 : decode cX10_findNearest 161 = .ok (.if_icmp .gt 60, 3) := by decide +kernel
theorem dX10_findNearest_164 : decode cX10_findNearest 164 = .ok (.aload_n 0, 1) := by decide +kernel
theorem dX10_findNearest_165 : decode cX10_findNearest 165 = .ok (.aload_n 0, 1) := by decide +kernel
theorem dX10_findNearest_166 : decode cX10_findNearest 166 = .ok (.getfield 40, 3) := by decide +kernel
theorem dX10_findNearest_169 : decode cX10_findNearest 169 = .ok (.iload_n 2, 1) := by decide +kernel
theorem dX10_findNearest_170 : decode cX10_findNearest 170 = .ok (.iaload, 1) := by decide +kernel
theorem dX10_findNearest_171 : decode cX10_findNearest 171 = .ok (.iload_n 3, 1) := by decide +kernel
theorem dX10_findNearest_172 : decode cX10_findNearest 172 = .ok (.invokevirtual 192, 3) := by decide +kernel
theorem dX10_findNearest_175 : decode cX10_findNearest 175 = .ok (.istore 4, 2) := by decide +kernel
theorem dX10_findNearest_177 : decode cX10_findNearest 177 = .ok (.iload 4, 2) := by decide +kernel
theorem dX10_findNearest_179 : decode cX10_findNearest 179 = .ok (.ifCond .lt 36, 3) := by decide +kernel
theorem dX10_findNearest_182 : decode cX10_findNearest 182 = .ok (.aload_n 0, 1) := by decide +kernel
theorem dX10_findNearest_183 : decode cX10_findNearest 183 = .ok (.iload_n 2, 1) := by decide +kernel
theorem dX10_findNearest_184 : decode cX10_findNearest 184 = .ok (.iload 4, 2) := by decide +kernel
theorem dX10_findNearest_186 : decode cX10_findNearest 186 = .ok (.aload_n 0, 1) := by decide +kernel
theorem dX10_findNearest_187 : decode cX10_findNearest 187 = .ok (.aload_n 0, 1) := by decide +kernel
theorem dX10_findNearest_188 : decode cX10_findNearest 188 = .ok (.getfield 40, 3) := by decide +kernel
theorem dX10_findNearest_191 : decode cX10_findNearest 191 = .ok (.iload_n 2, 1) := by decide +kernel
theorem dX10_findNearest_192 : decode cX10_findNearest 192 = .ok (.iaload, 1) := by decide +kernel
theorem dX10_findNearest_193 : decode cX10_findNearest 193 = .ok (.iload_n 3, 1) := by decide +kernel
theorem dX10_findNearest_194 : decode cX10_findNearest 194 = .ok (.invokevirtual 198, 3) := by decide +kernel
theorem dX10_findNearest_197 : decode cX10_findNearest 197 = .ok (.iload_n 1, 1) := by decide +kernel
theorem dX10_findNearest_198 : decode cX10_findNearest 198 = .ok (.aload_n 0, 1) := by decide +kernel
theorem dX10_findNearest_199 : decode cX10_findNearest 199 = .ok (.getfield 37, 3) := by decide +kernel
theorem dX10_findNearest_202 : decode cX10_findNearest 202 = .ok (.iload_n 2, 1) := by decide +kernel
theorem dX10_findNearest_203 : decode cX10_findNearest 203 = .ok (.iaload, 1) := by decide +kernel
theorem dX10_findNearest_204 : decode cX10_findNearest 204 = .ok (.invokestatic 219, 3) := by decide +kernel
theorem dX10_findNearest_207 : decode cX10_findNearest 207 = .ok (.isub, 1) := by decide +kernel
theorem dX10_findNearest_208 : decode cX10_findNearest 208 = .ok (.iconst 2, 1) := by decide +kernel
theorem dX10_findNearest_209 : decode cX10_findNearest 209 = .ok (.isub, 1) := by decide +kernel
theorem dX10_findNearest_210 : decode cX10_findNearest 210 = .ok (.iload_n 3, 1) := by decide +kernel
theorem dX10_findNearest_211 : decode cX10_findNearest 211 = .ok (.isub, 1) := by decide +kernel
theorem dX10_findNearest_212 : decode cX10_findNearest 212 = .ok (.invokevirtual 226, 3) := by decide +kernel
theorem dX10_findNearest_215 : decode cX10_findNearest 215 = .ok (.iinc 3 1, 3) := by decide +kernel
theorem dX10_findNearest_218 : decode cX10_findNearest 218 = .ok (.goto (-59), 3) := by decide +kernel
theorem dX10_findNearest_221 : decode cX10_findNearest 221 = .ok (.iinc 2 1, 3) := by decide +kernel
theorem dX10_findNearest_224 : decode cX10_findNearest 224 = .ok (.goto (-84), 3) := by decide +kernel
theorem dX10_findNearest_227 : decode cX10_findNearest 227 = .ok (.iinc 1 1, 3) := by decide +kernel
theorem dX10_findNearest_230 : decode cX10_findNearest 230 = .ok (.goto (-214), 3) := by decide +kernel
theorem dX10_findNearest_233 : decode cX10_findNearest 233 = .ok (.return_, 1) := by decide +kernel
theorem dX10_lacksFit_0 : decode cX10_lacksFit 0 = .ok (.aload_n 0, 1) := by decide +kernel
theorem dX10_lacksFit_1 : decode cX10_lacksFit 1 = .ok (.iconst 1, 1) := by decide +kernel
theorem dX10_lacksFit_2 : decode cX10_lacksFit 2 = .ok (.invokevirtual 169, 3) := by decide +kernel
theorem dX10_lacksFit_5 : decode cX10_lacksFit 5 = .ok (.ifCond .ne 6, 3) := by decide +kernel
theorem dX10_lacksFit_8 : decode cX10_lacksFit 8 = .ok (.bipush (-2), 2) := by decide +kernel
theorem dX10_lacksFit_10 : decode cX10_lacksFit 10 = .ok (.ireturn, 1) := by decide +kernel
theorem dX10_lacksFit_11 : decode cX10_lacksFit 11 = .ok (.aload_n 0, 1) := by decide +kernel
theorem dX10_lacksFit_12 : decode cX10_lacksFit 12 = .ok (.invokevirtual 230, 3) := by decide +kernel
theorem dX10_lacksFit_15 : decode cX10_lacksFit 15 = .ok (.aload_n 0, 1) := by decide +kernel
theorem dX10_lacksFit_16 : decode cX10_lacksFit 16 = .ok (.getfield 216, 3) := by decide +kernel
theorem dX10_lacksFit_19 : decode cX10_lacksFit 19 = .ok (.ifCond .ne 8, 3) := by decide +kernel
theorem dX10_lacksFit_22 : decode cX10_lacksFit 22 = .ok (.bipush (-4), 2) := by decide +kernel
theorem dX10_lacksFit_24 : decode cX10_lacksFit 24 = .ok (.goto 4, 3) := by decide +kernel
theorem dX10_lacksFit_27 : decode cX10_lacksFit 27 = .ok (.iconst 0, 1) := by decide +kernel
theorem dX10_lacksFit_28 : decode cX10_lacksFit 28 = .ok (.ireturn, 1) := by decide +kernel
theorem dX10_runRow_0 : decode cX10_runRow 0 = .ok (.aload_n 0, 1) := by decide +kernel
theorem dX10_runRow_1 : decode cX10_runRow 1 = .ok (.iconst 0, 1) := by decide +kernel
theorem dX10_runRow_2 : decode cX10_runRow 2 = .ok (.putfield 150, 3) := by decide +kernel
theorem dX10_runRow_5 : decode cX10_runRow 5 = .ok (.iconst 1, 1) := by decide +kernel
theorem dX10_runRow_6 : decode cX10_runRow 6 = .ok (.istore 4, 2) := by decide +kernel
theorem dX10_runRow_8 : decode cX10_runRow 8 = .ok (.iconst 0, 1) := by decide +kernel
theorem dX10_runRow_9 : decode cX10_runRow 9 = .ok (.istore 5, 2) := by decide +kernel
theorem dX10_runRow_11 : decode cX10_runRow 11 = .ok (.iload 5, 2) := by decide +kernel
theorem dX10_runRow_13 : decode cX10_runRow 13 = .ok (.iconst 3, 1) := by decide +kernel
theorem dX10_runRow_14 : decode cX10_runRow 14 = .ok (.if_icmp .ge 36, 3) := by decide +kernel
theorem dX10_runRow_17 : decode cX10_runRow 17 = .ok (.iload 4, 2) := by decide +kernel
theorem dX10_runRow_19 : decode cX10_runRow 19 = .ok (.ifCond .eq 31, 3) := by decide +kernel
theorem dX10_runRow_22 : decode cX10_runRow 22 = .ok (.aload_n 1, 1) := by decide +kernel
theorem dX10_runRow_23 : decode cX10_runRow 23 = .ok (.iload_n 2, 1) := by decide +kernel
theorem dX10_runRow_24 : decode cX10_runRow 24 = .ok (.iload 5, 2) := by decide +kernel
theorem dX10_runRow_26 : decode cX10_runRow 26 = .ok (.iadd, 1) := by decide +kernel
theorem dX10_runRow_27 : decode cX10_runRow 27 = .ok (.iaload, 1) := by decide +kernel
theorem dX10_runRow_28 : decode cX10_runRow 28 = .ok (.ifCond .lt 22, 3) := by decide +kernel
theorem dX10_runRow_31 : decode cX10_runRow 31 = .ok (.aload_n 0, 1) := by decide +kernel
theorem dX10_runRow_32 : decode cX10_runRow 32 = .ok (.iload_n 3, 1) := by decide +kernel
theorem dX10_runRow_33 : decode cX10_runRow 33 = .ok (.aload_n 1, 1) := by decide +kernel
theorem dX10_runRow_34 : decode cX10_runRow 34 = .ok (.iload_n 2, 1) := by decide +kernel
theorem dX10_runRow_35 : decode cX10_runRow 35 = .ok (.iload 5, 2) := by decide +kernel
theorem dX10_runRow_37 : decode cX10_runRow 37 = .ok (.iadd, 1) := by decide +kernel
theorem dX10_runRow_38 : decode cX10_runRow 38 = .ok (.iaload, 1) := by decide +kernel
theorem dX10_runRow_39 : decode cX10_runRow 39 = .ok (.invokevirtual 158, 3) := by decide +kernel
theorem dX10_runRow_42 : decode cX10_runRow 42 = .ok (.istore 4, 2) := by decide +kernel
theorem dX10_runRow_44 : decode cX10_runRow 44 = .ok (.iinc 5 1, 3) := by decide +kernel
theorem dX10_runRow_47 : decode cX10_runRow 47 = .ok (.goto (-36), 3) := by decide +kernel
theorem dX10_runRow_50 : decode cX10_runRow 50 = .ok (.aload_n 0, 1) := by decide +kernel
theorem dX10_runRow_51 : decode cX10_runRow 51 = .ok (.iload 4, 2) := by decide +kernel
theorem dX10_runRow_53 : decode cX10_runRow 53 = .ok (.ifCond .eq 10, 3) := by decide +kernel
theorem dX10_runRow_56 : decode cX10_runRow 56 = .ok (.aload_n 0, 1) := by decide +kernel
theorem dX10_runRow_57 : decode cX10_runRow 57 = .ok (.getfield 150, 3) := by decide +kernel
theorem dX10_runRow_60 : decode cX10_runRow 60 = .ok (.goto 4, 3) := by decide +kernel
theorem dX10_runRow_63 : decode cX10_runRow 63 = .ok (.iconst 0, 1) := by decide +kernel
theorem dX10_runRow_64 : decode cX10_runRow 64 = .ok (.putfield 150, 3) := by decide +kernel
theorem dX10_runRow_67 : decode cX10_runRow 67 = .ok (.iload 4, 2) := by decide +kernel
theorem dX10_runRow_69 : decode cX10_runRow 69 = .ok (.ireturn, 1) := by decide +kernel
theorem dX10_toldOf_0 : decode cX10_toldOf 0 = .ok (.iconst 0, 1) := by decide +kernel
theorem dX10_toldOf_1 : decode cX10_toldOf 1 = .ok (.istore_n 3, 1) := by decide +kernel
theorem dX10_toldOf_2 : decode cX10_toldOf 2 = .ok (.iconst 0, 1) := by decide +kernel
theorem dX10_toldOf_3 : decode cX10_toldOf 3 = .ok (.istore 4, 2) := by decide +kernel
theorem dX10_toldOf_5 : decode cX10_toldOf 5 = .ok (.iconst 0, 1) := by decide +kernel
theorem dX10_toldOf_6 : decode cX10_toldOf 6 = .ok (.istore 5, 2) := by decide +kernel
theorem dX10_toldOf_8 : decode cX10_toldOf 8 = .ok (.iload 5, 2) := by decide +kernel
theorem dX10_toldOf_10 : decode cX10_toldOf 10 = .ok (.iconst 3, 1) := by decide +kernel
theorem dX10_toldOf_11 : decode cX10_toldOf 11 = .ok (.if_icmp .ge 53, 3) := by decide +kernel
theorem dX10_toldOf_14 : decode cX10_toldOf 14 = .ok (.iload_n 3, 1) := by decide +kernel
theorem dX10_toldOf_15 : decode cX10_toldOf 15 = .ok (.aload_n 0, 1) := by decide +kernel
theorem dX10_toldOf_16 : decode cX10_toldOf 16 = .ok (.iload_n 1, 1) := by decide +kernel
theorem dX10_toldOf_17 : decode cX10_toldOf 17 = .ok (.iload 5, 2) := by decide +kernel
theorem dX10_toldOf_19 : decode cX10_toldOf 19 = .ok (.iadd, 1) := by decide +kernel
theorem dX10_toldOf_20 : decode cX10_toldOf 20 = .ok (.iaload, 1) := by decide +kernel
theorem dX10_toldOf_21 : decode cX10_toldOf 21 = .ok (.ifCond .ge 7, 3) := by decide +kernel
theorem dX10_toldOf_24 : decode cX10_toldOf 24 = .ok (.iconst 0, 1) := by decide +kernel
theorem dX10_toldOf_25 : decode cX10_toldOf 25 = .ok (.goto 12, 3) := by decide +kernel
theorem dX10_toldOf_28 : decode cX10_toldOf 28 = .ok (.aload_n 0, 1) := by decide +kernel
theorem dX10_toldOf_29 : decode cX10_toldOf 29 = .ok (.iload_n 1, 1) := by decide +kernel
theorem dX10_toldOf_30 : decode cX10_toldOf 30 = .ok (.iload 5, 2) := by decide +kernel
theorem dX10_toldOf_32 : decode cX10_toldOf 32 = .ok (.iadd, 1) := by decide +kernel
theorem dX10_toldOf_33 : decode cX10_toldOf 33 = .ok (.iaload, 1) := by decide +kernel
theorem dX10_toldOf_34 : decode cX10_toldOf 34 = .ok (.invokestatic 219, 3) := by decide +kernel
theorem dX10_toldOf_37 : decode cX10_toldOf 37 = .ok (.iadd, 1) := by decide +kernel
theorem dX10_toldOf_38 : decode cX10_toldOf 38 = .ok (.istore_n 3, 1) := by decide +kernel
theorem dX10_toldOf_39 : decode cX10_toldOf 39 = .ok (.iload 4, 2) := by decide +kernel
theorem dX10_toldOf_41 : decode cX10_toldOf 41 = .ok (.aload_n 0, 1) := by decide +kernel
theorem dX10_toldOf_42 : decode cX10_toldOf 42 = .ok (.iload_n 1, 1) := by decide +kernel
theorem dX10_toldOf_43 : decode cX10_toldOf 43 = .ok (.iload 5, 2) := by decide +kernel
theorem dX10_toldOf_45 : decode cX10_toldOf 45 = .ok (.iadd, 1) := by decide +kernel
theorem dX10_toldOf_46 : decode cX10_toldOf 46 = .ok (.iaload, 1) := by decide +kernel
theorem dX10_toldOf_47 : decode cX10_toldOf 47 = .ok (.ifCond .ge 7, 3) := by decide +kernel
theorem dX10_toldOf_50 : decode cX10_toldOf 50 = .ok (.iconst 0, 1) := by decide +kernel
theorem dX10_toldOf_51 : decode cX10_toldOf 51 = .ok (.goto 4, 3) := by decide +kernel
theorem dX10_toldOf_54 : decode cX10_toldOf 54 = .ok (.iconst 1, 1) := by decide +kernel
theorem dX10_toldOf_55 : decode cX10_toldOf 55 = .ok (.iadd, 1) := by decide +kernel
theorem dX10_toldOf_56 : decode cX10_toldOf 56 = .ok (.istore 4, 2) := by decide +kernel
theorem dX10_toldOf_58 : decode cX10_toldOf 58 = .ok (.iinc 5 1, 3) := by decide +kernel
theorem dX10_toldOf_61 : decode cX10_toldOf 61 = .ok (.goto (-53), 3) := by decide +kernel
theorem dX10_toldOf_64 : decode cX10_toldOf 64 = .ok (.iload_n 2, 1) := by decide +kernel
theorem dX10_toldOf_65 : decode cX10_toldOf 65 = .ok (.ifCond .ne 7, 3) := by decide +kernel
theorem dX10_toldOf_68 : decode cX10_toldOf 68 = .ok (.iload_n 3, 1) := by decide +kernel
theorem dX10_toldOf_69 : decode cX10_toldOf 69 = .ok (.goto 32, 3) := by decide +kernel
theorem dX10_toldOf_72 : decode cX10_toldOf 72 = .ok (.iload_n 2, 1) := by decide +kernel
theorem dX10_toldOf_73 : decode cX10_toldOf 73 = .ok (.iconst 1, 1) := by decide +kernel
theorem dX10_toldOf_74 : decode cX10_toldOf 74 = .ok (.if_icmp .ne 8, 3) := by decide +kernel
theorem dX10_toldOf_77 : decode cX10_toldOf 77 = .ok (.iload 4, 2) := by decide +kernel
theorem dX10_toldOf_79 : decode cX10_toldOf 79 = .ok (.goto 22, 3) := by decide +kernel
theorem dX10_toldOf_82 : decode cX10_toldOf 82 = .ok (.iload_n 2, 1) := by decide +kernel
theorem dX10_toldOf_83 : decode cX10_toldOf 83 = .ok (.iconst 2, 1) := by decide +kernel
theorem dX10_toldOf_84 : decode cX10_toldOf 84 = .ok (.isub, 1) := by decide +kernel
theorem dX10_toldOf_85 : decode cX10_toldOf 85 = .ok (.iload 4, 2) := by decide +kernel
theorem dX10_toldOf_87 : decode cX10_toldOf 87 = .ok (.if_icmp .ge 13, 3) := by decide +kernel
theorem dX10_toldOf_90 : decode cX10_toldOf 90 = .ok (.aload_n 0, 1) := by decide +kernel
theorem dX10_toldOf_91 : decode cX10_toldOf 91 = .ok (.iload_n 1, 1) := by decide +kernel
theorem dX10_toldOf_92 : decode cX10_toldOf 92 = .ok (.iload_n 2, 1) := by decide +kernel
theorem dX10_toldOf_93 : decode cX10_toldOf 93 = .ok (.iadd, 1) := by decide +kernel
theorem dX10_toldOf_94 : decode cX10_toldOf 94 = .ok (.iconst 2, 1) := by decide +kernel
theorem dX10_toldOf_95 : decode cX10_toldOf 95 = .ok (.isub, 1) := by decide +kernel
theorem dX10_toldOf_96 : decode cX10_toldOf 96 = .ok (.iaload, 1) := by decide +kernel
theorem dX10_toldOf_97 : decode cX10_toldOf 97 = .ok (.goto 4, 3) := by decide +kernel
theorem dX10_toldOf_100 : decode cX10_toldOf 100 = .ok (.iconst (-1), 1) := by decide +kernel
theorem dX10_toldOf_101 : decode cX10_toldOf 101 = .ok (.ireturn, 1) := by decide +kernel
theorem dX10_shortest_0 : decode cX10_shortest 0 = .ok (.iload_n 1, 1) := by decide +kernel
theorem dX10_shortest_1 : decode cX10_shortest 1 = .ok (.i2l, 1) := by decide +kernel
theorem dX10_shortest_2 : decode cX10_shortest 2 = .ok (.lconst 0, 1) := by decide +kernel
theorem dX10_shortest_3 : decode cX10_shortest 3 = .ok (.ldc2_w 233, 3) := by decide +kernel
theorem dX10_shortest_6 : decode cX10_shortest 6 = .ok (.invokestatic 84, 3) := by decide +kernel
theorem dX10_shortest_9 : decode cX10_shortest 9 = .ok (.ifCond .ne 5, 3) := by decide +kernel
theorem dX10_shortest_12 : decode cX10_shortest 12 = .ok (.iconst (-1), 1) := by decide +kernel
theorem dX10_shortest_13 : decode cX10_shortest 13 = .ok (.ireturn, 1) := by decide +kernel
theorem dX10_shortest_14 : decode cX10_shortest 14 = .ok (.aload_n 0, 1) := by decide +kernel
theorem dX10_shortest_15 : decode cX10_shortest 15 = .ok (.invokevirtual 235, 3) := by decide +kernel
theorem dX10_shortest_18 : decode cX10_shortest 18 = .ok (.istore_n 2, 1) := by decide +kernel
theorem dX10_shortest_19 : decode cX10_shortest 19 = .ok (.iload_n 2, 1) := by decide +kernel
theorem dX10_shortest_20 : decode cX10_shortest 20 = .ok (.ifCond .ge 7, 3) := by decide +kernel
theorem dX10_shortest_23 : decode cX10_shortest 23 = .ok (.iload_n 2, 1) := by decide +kernel
theorem dX10_shortest_24 : decode cX10_shortest 24 = .ok (.goto 12, 3) := by decide +kernel
theorem dX10_shortest_27 : decode cX10_shortest 27 = .ok (.aload_n 0, 1) := by decide +kernel
theorem dX10_shortest_28 : decode cX10_shortest 28 = .ok (.getfield 53, 3) := by decide +kernel
theorem dX10_shortest_31 : decode cX10_shortest 31 = .ok (.iconst 0, 1) := by decide +kernel
theorem dX10_shortest_32 : decode cX10_shortest 32 = .ok (.iload_n 1, 1) := by decide +kernel
theorem dX10_shortest_33 : decode cX10_shortest 33 = .ok (.invokestatic 239, 3) := by decide +kernel
theorem dX10_shortest_36 : decode cX10_shortest 36 = .ok (.ireturn, 1) := by decide +kernel
theorem dX10_paper_0 : decode cX10_paper 0 = .ok (.aload_n 0, 1) := by decide +kernel
theorem dX10_paper_1 : decode cX10_paper 1 = .ok (.iload_n 1, 1) := by decide +kernel
theorem dX10_paper_2 : decode cX10_paper 2 = .ok (.invokevirtual 105, 3) := by decide +kernel
theorem dX10_paper_5 : decode cX10_paper 5 = .ok (.ifCond .eq 8, 3) := by decide +kernel
theorem dX10_paper_8 : decode cX10_paper 8 = .ok (.iload_n 2, 1) := by decide +kernel
theorem dX10_paper_9 : decode cX10_paper 9 = .ok (.iconst (-1), 1) := by decide +kernel
theorem dX10_paper_10 : decode cX10_paper 10 = .ok (.if_icmp .ge 5, 3) := by decide +kernel
theorem dX10_paper_13 : decode cX10_paper 13 = .ok (.iconst (-1), 1) := by decide +kernel
theorem dX10_paper_14 : decode cX10_paper 14 = .ok (.ireturn, 1) := by decide +kernel
theorem dX10_paper_15 : decode cX10_paper 15 = .ok (.aload_n 0, 1) := by decide +kernel
theorem dX10_paper_16 : decode cX10_paper 16 = .ok (.invokevirtual 235, 3) := by decide +kernel
theorem dX10_paper_19 : decode cX10_paper 19 = .ok (.istore_n 3, 1) := by decide +kernel
theorem dX10_paper_20 : decode cX10_paper 20 = .ok (.iload_n 3, 1) := by decide +kernel
theorem dX10_paper_21 : decode cX10_paper 21 = .ok (.ifCond .ge 5, 3) := by decide +kernel
theorem dX10_paper_24 : decode cX10_paper 24 = .ok (.iload_n 3, 1) := by decide +kernel
theorem dX10_paper_25 : decode cX10_paper 25 = .ok (.ireturn, 1) := by decide +kernel
theorem dX10_paper_26 : decode cX10_paper 26 = .ok (.aload_n 0, 1) := by decide +kernel
theorem dX10_paper_27 : decode cX10_paper 27 = .ok (.aload_n 0, 1) := by decide +kernel
theorem dX10_paper_28 : decode cX10_paper 28 = .ok (.getfield 53, 3) := by decide +kernel
theorem dX10_paper_31 : decode cX10_paper 31 = .ok (.iconst 0, 1) := by decide +kernel
theorem dX10_paper_32 : decode cX10_paper 32 = .ok (.iload_n 1, 1) := by decide +kernel
theorem dX10_paper_33 : decode cX10_paper 33 = .ok (.invokevirtual 243, 3) := by decide +kernel
theorem dX10_paper_36 : decode cX10_paper 36 = .ok (.ifCond .eq 11, 3) := by decide +kernel
theorem dX10_paper_39 : decode cX10_paper 39 = .ok (.aload_n 0, 1) := by decide +kernel
theorem dX10_paper_40 : decode cX10_paper 40 = .ok (.iload_n 2, 1) := by decide +kernel
theorem dX10_paper_41 : decode cX10_paper 41 = .ok (.invokevirtual 161, 3) := by decide +kernel
theorem dX10_paper_44 : decode cX10_paper 44 = .ok (.goto 5, 3) := by decide +kernel
theorem dX10_paper_47 : decode cX10_paper 47 = .ok (.bipush (-4), 2) := by decide +kernel
theorem dX10_paper_49 : decode cX10_paper 49 = .ok (.ireturn, 1) := by decide +kernel
theorem dX10_findEnds_0 : decode cX10_findEnds 0 = .ok (.iconst 0, 1) := by decide +kernel
theorem dX10_findEnds_1 : decode cX10_findEnds 1 = .ok (.istore_n 2, 1) := by decide +kernel
theorem dX10_findEnds_2 : decode cX10_findEnds 2 = .ok (.iload_n 2, 1) := by decide +kernel
theorem dX10_findEnds_3 : decode cX10_findEnds 3 = .ok (.aload_n 0, 1) := by decide +kernel
theorem dX10_findEnds_4 : decode cX10_findEnds 4 = .ok (.getfield 216, 3) := by decide +kernel
theorem dX10_findEnds_7 : decode cX10_findEnds 7 = .ok (.if_icmp .ge 65, 3) := by decide +kernel
theorem dX10_findEnds_10 : decode cX10_findEnds 10 = .ok (.aload_n 0, 1) := by decide +kernel
theorem dX10_findEnds_11 : decode cX10_findEnds 11 = .ok (.aload_n 0, 1) := by decide +kernel
theorem dX10_findEnds_12 : decode cX10_findEnds 12 = .ok (.getfield 53, 3) := by decide +kernel
theorem dX10_findEnds_15 : decode cX10_findEnds 15 = .ok (.iconst 3, 1) := by decide +kernel
theorem dX10_findEnds_16 : decode cX10_findEnds 16 = .ok (.iload_n 2, 1) := by decide +kernel
theorem dX10_findEnds_17 : decode cX10_findEnds 17 = .ok (.imul, 1) := by decide +kernel
theorem dX10_findEnds_18 : decode cX10_findEnds 18 = .ok (.iload_n 1, 1) := by decide +kernel
theorem dX10_findEnds_19 : decode cX10_findEnds 19 = .ok (.invokevirtual 243, 3) := by decide +kernel
theorem dX10_findEnds_22 : decode cX10_findEnds 22 = .ok (.pop, 1) := by decide +kernel
theorem dX10_findEnds_23 : decode cX10_findEnds 23 = .ok (.aload_n 0, 1) := by decide +kernel
theorem dX10_findEnds_24 : decode cX10_findEnds 24 = .ok (.getfield 59, 3) := by decide +kernel
theorem dX10_findEnds_27 : decode cX10_findEnds 27 = .ok (.iload_n 2, 1) := by decide +kernel
theorem dX10_findEnds_28 : decode cX10_findEnds 28 = .ok (.aload_n 0, 1) := by decide +kernel
theorem dX10_findEnds_29 : decode cX10_findEnds 29 = .ok (.getfield 150, 3) := by decide +kernel
theorem dX10_findEnds_32 : decode cX10_findEnds 32 = .ok (.iastore, 1) := by decide +kernel
theorem dX10_findEnds_33 : decode cX10_findEnds 33 = .ok (.iconst 0, 1) := by decide +kernel
theorem dX10_findEnds_34 : decode cX10_findEnds 34 = .ok (.istore_n 3, 1) := by decide +kernel
theorem dX10_findEnds_35 : decode cX10_findEnds 35 = .ok (.iload_n 3, 1) := by decide +kernel
theorem dX10_findEnds_36 : decode cX10_findEnds 36 = .ok (.aload_n 0, 1) := by decide +kernel
theorem dX10_findEnds_37 : decode cX10_findEnds 37 = .ok (.getfield 150, 3) := by decide +kernel
theorem dX10_findEnds_40 : decode cX10_findEnds 40 = .ok (.if_icmp .ge 26, 3) := by decide +kernel
theorem dX10_findEnds_43 : decode cX10_findEnds 43 = .ok (.aload_n 0, 1) := by decide +kernel
theorem dX10_findEnds_44 : decode cX10_findEnds 44 = .ok (.getfield 56, 3) := by decide +kernel
theorem dX10_findEnds_47 : decode cX10_findEnds 47 = .ok (.bipush 36, 2) := by decide +kernel
theorem dX10_findEnds_49 : decode cX10_findEnds 49 = .ok (.iload_n 2, 1) := by decide +kernel
theorem dX10_findEnds_50 : decode cX10_findEnds 50 = .ok (.imul, 1) := by decide +kernel
theorem dX10_findEnds_51 : decode cX10_findEnds 51 = .ok (.iload_n 3, 1) := by decide +kernel
theorem dX10_findEnds_52 : decode cX10_findEnds 52 = .ok (.iadd, 1) := by decide +kernel
theorem dX10_findEnds_53 : decode cX10_findEnds 53 = .ok (.aload_n 0, 1) := by decide +kernel
theorem dX10_findEnds_54 : decode cX10_findEnds 54 = .ok (.getfield 31, 3) := by decide +kernel
theorem dX10_findEnds_57 : decode cX10_findEnds 57 = .ok (.iload_n 3, 1) := by decide +kernel
theorem dX10_findEnds_58 : decode cX10_findEnds 58 = .ok (.iaload, 1) := by decide +kernel
theorem dX10_findEnds_59 : decode cX10_findEnds 59 = .ok (.iastore, 1) := by decide +kernel
theorem dX10_findEnds_60 : decode cX10_findEnds 60 = .ok (.iinc 3 1, 3) := by decide +kernel
theorem dX10_findEnds_63 : decode cX10_findEnds 63 = .ok (.goto (-28), 3) := by decide +kernel
theorem dX10_findEnds_66 : decode cX10_findEnds 66 = .ok (.iinc 2 1, 3) := by decide +kernel
theorem dX10_findEnds_69 : decode cX10_findEnds 69 = .ok (.goto (-67), 3) := by decide +kernel
theorem dX10_findEnds_72 : decode cX10_findEnds 72 = .ok (.return_, 1) := by decide +kernel
theorem dX10_areAlike_0 : decode cX10_areAlike 0 = .ok (.aload_n 0, 1) := by decide +kernel
theorem dX10_areAlike_1 : decode cX10_areAlike 1 = .ok (.getfield 59, 3) := by decide +kernel
theorem dX10_areAlike_4 : decode cX10_areAlike 4 = .ok (.iload_n 1, 1) := by decide +kernel
theorem dX10_areAlike_5 : decode cX10_areAlike 5 = .ok (.iaload, 1) := by decide +kernel
theorem dX10_areAlike_6 : decode cX10_areAlike 6 = .ok (.aload_n 0, 1) := by decide +kernel
theorem dX10_areAlike_7 : decode cX10_areAlike 7 = .ok (.getfield 59, 3) := by decide +kernel
theorem dX10_areAlike_10 : decode cX10_areAlike 10 = .ok (.iload_n 2, 1) := by decide +kernel
theorem dX10_areAlike_11 : decode cX10_areAlike 11 = .ok (.iaload, 1) := by decide +kernel
theorem dX10_areAlike_12 : decode cX10_areAlike 12 = .ok (.if_icmp .ne 7, 3) := by decide +kernel
theorem dX10_areAlike_15 : decode cX10_areAlike 15 = .ok (.iconst 1, 1) := by decide +kernel
theorem dX10_areAlike_16 : decode cX10_areAlike 16 = .ok (.goto 4, 3) := by decide +kernel
theorem dX10_areAlike_19 : decode cX10_areAlike 19 = .ok (.iconst 0, 1) := by decide +kernel
theorem dX10_areAlike_20 : decode cX10_areAlike 20 = .ok (.istore_n 3, 1) := by decide +kernel
theorem dX10_areAlike_21 : decode cX10_areAlike 21 = .ok (.iconst 0, 1) := by decide +kernel
theorem dX10_areAlike_22 : decode cX10_areAlike 22 = .ok (.istore 4, 2) := by decide +kernel
theorem dX10_areAlike_24 : decode cX10_areAlike 24 = .ok (.iload 4, 2) := by decide +kernel
theorem dX10_areAlike_26 : decode cX10_areAlike 26 = .ok (.aload_n 0, 1) := by decide +kernel
theorem dX10_areAlike_27 : decode cX10_areAlike 27 = .ok (.getfield 59, 3) := by decide +kernel
theorem dX10_areAlike_30 : decode cX10_areAlike 30 = .ok (.iload_n 1, 1) := by decide +kernel
theorem dX10_areAlike_31 : decode cX10_areAlike 31 = .ok (.iaload, 1) := by decide +kernel
theorem dX10_areAlike_32 : decode cX10_areAlike 32 = .ok (.if_icmp .ge 46, 3) := by decide +kernel
theorem dX10_areAlike_35 : decode cX10_areAlike 35 = .ok (.iload_n 3, 1) := by decide +kernel
theorem dX10_areAlike_36 : decode cX10_areAlike 36 = .ok (.ifCond .eq 42, 3) := by decide +kernel
theorem dX10_areAlike_39 : decode cX10_areAlike 39 = .ok (.aload_n 0, 1) := by decide +kernel
theorem dX10_areAlike_40 : decode cX10_areAlike 40 = .ok (.getfield 56, 3) := by decide +kernel
theorem dX10_areAlike_43 : decode cX10_areAlike 43 = .ok (.bipush 36, 2) := by decide +kernel
theorem dX10_areAlike_45 : decode cX10_areAlike 45 = .ok (.iload_n 1, 1) := by decide +kernel
theorem dX10_areAlike_46 : decode cX10_areAlike 46 = .ok (.imul, 1) := by decide +kernel
theorem dX10_areAlike_47 : decode cX10_areAlike 47 = .ok (.iload 4, 2) := by decide +kernel
theorem dX10_areAlike_49 : decode cX10_areAlike 49 = .ok (.iadd, 1) := by decide +kernel
theorem dX10_areAlike_50 : decode cX10_areAlike 50 = .ok (.iaload, 1) := by decide +kernel
theorem dX10_areAlike_51 : decode cX10_areAlike 51 = .ok (.aload_n 0, 1) := by decide +kernel
theorem dX10_areAlike_52 : decode cX10_areAlike 52 = .ok (.getfield 56, 3) := by decide +kernel
theorem dX10_areAlike_55 : decode cX10_areAlike 55 = .ok (.bipush 36, 2) := by decide +kernel
theorem dX10_areAlike_57 : decode cX10_areAlike 57 = .ok (.iload_n 2, 1) := by decide +kernel
theorem dX10_areAlike_58 : decode cX10_areAlike 58 = .ok (.imul, 1) := by decide +kernel
theorem dX10_areAlike_59 : decode cX10_areAlike 59 = .ok (.iload 4, 2) := by decide +kernel
theorem dX10_areAlike_61 : decode cX10_areAlike 61 = .ok (.iadd, 1) := by decide +kernel
theorem dX10_areAlike_62 : decode cX10_areAlike 62 = .ok (.iaload, 1) := by decide +kernel
theorem dX10_areAlike_63 : decode cX10_areAlike 63 = .ok (.if_icmp .ne 7, 3) := by decide +kernel
theorem dX10_areAlike_66 : decode cX10_areAlike 66 = .ok (.iconst 1, 1) := by decide +kernel
theorem dX10_areAlike_67 : decode cX10_areAlike 67 = .ok (.goto 4, 3) := by decide +kernel
theorem dX10_areAlike_70 : decode cX10_areAlike 70 = .ok (.iconst 0, 1) := by decide +kernel
theorem dX10_areAlike_71 : decode cX10_areAlike 71 = .ok (.istore_n 3, 1) := by decide +kernel
theorem dX10_areAlike_72 : decode cX10_areAlike 72 = .ok (.iinc 4 1, 3) := by decide +kernel
theorem dX10_areAlike_75 : decode cX10_areAlike 75 = .ok (.goto (-51), 3) := by decide +kernel
theorem dX10_areAlike_78 : decode cX10_areAlike 78 = .ok (.iload_n 3, 1) := by decide +kernel
theorem dX10_areAlike_79 : decode cX10_areAlike 79 = .ok (.ireturn, 1) := by decide +kernel
theorem dX10_sortEnds_0 : decode cX10_sortEnds 0 = .ok (.aload_n 0, 1) := by decide +kernel
theorem dX10_sortEnds_1 : decode cX10_sortEnds 1 = .ok (.iload_n 1, 1) := by decide +kernel
theorem dX10_sortEnds_2 : decode cX10_sortEnds 2 = .ok (.invokevirtual 247, 3) := by decide +kernel
theorem dX10_sortEnds_5 : decode cX10_sortEnds 5 = .ok (.iconst 0, 1) := by decide +kernel
theorem dX10_sortEnds_6 : decode cX10_sortEnds 6 = .ok (.istore_n 3, 1) := by decide +kernel
theorem dX10_sortEnds_7 : decode cX10_sortEnds 7 = .ok (.iconst 0, 1) := by decide +kernel
theorem dX10_sortEnds_8 : decode cX10_sortEnds 8 = .ok (.istore 4, 2) := by decide +kernel
theorem dX10_sortEnds_10 : decode cX10_sortEnds 10 = .ok (.iconst 0, 1) := by decide +kernel
theorem dX10_sortEnds_11 : decode cX10_sortEnds 11 = .ok (.istore 5, 2) := by decide +kernel
theorem dX10_sortEnds_13 : decode cX10_sortEnds 13 = .ok (.iload 5, 2) := by decide +kernel
theorem dX10_sortEnds_15 : decode cX10_sortEnds 15 = .ok (.aload_n 0, 1) := by decide +kernel
theorem dX10_sortEnds_16 : decode cX10_sortEnds 16 = .ok (.getfield 216, 3) := by decide +kernel
theorem dX10_sortEnds_19 : decode cX10_sortEnds 19 = .ok (.if_icmp .ge 109, 3) := by decide +kernel
theorem dX10_sortEnds_22 : decode cX10_sortEnds 22 = .ok (.iconst 0, 1) := by decide +kernel
theorem dX10_sortEnds_23 : decode cX10_sortEnds 23 = .ok (.istore 6, 2) := by decide +kernel
theorem dX10_sortEnds_25 : decode cX10_sortEnds 25 = .ok (.iconst 0, 1) := by decide +kernel
theorem dX10_sortEnds_26 : decode cX10_sortEnds 26 = .ok (.istore 7, 2) := by decide +kernel
theorem dX10_sortEnds_28 : decode cX10_sortEnds 28 = .ok (.iconst 0, 1) := by decide +kernel
theorem dX10_sortEnds_29 : decode cX10_sortEnds 29 = .ok (.istore 8, 2) := by decide +kernel
theorem dX10_sortEnds_31 : decode cX10_sortEnds 31 = .ok (.iload 8, 2) := by decide +kernel
theorem dX10_sortEnds_33 : decode cX10_sortEnds 33 = .ok (.aload_n 0, 1) := by decide +kernel
theorem dX10_sortEnds_34 : decode cX10_sortEnds 34 = .ok (.getfield 216, 3) := by decide +kernel
theorem dX10_sortEnds_37 : decode cX10_sortEnds 37 = .ok (.if_icmp .ge 56, 3) := by decide +kernel
theorem dX10_sortEnds_40 : decode cX10_sortEnds 40 = .ok (.aload_n 0, 1) := by decide +kernel
theorem dX10_sortEnds_41 : decode cX10_sortEnds 41 = .ok (.iload 5, 2) := by decide +kernel
theorem dX10_sortEnds_43 : decode cX10_sortEnds 43 = .ok (.iload 8, 2) := by decide +kernel
theorem dX10_sortEnds_45 : decode cX10_sortEnds 45 = .ok (.invokevirtual 250, 3) := by decide +kernel
theorem dX10_sortEnds_48 : decode cX10_sortEnds 48 = .ok (.istore 9, 2) := by decide +kernel
theorem dX10_sortEnds_50 : decode cX10_sortEnds 50 = .ok (.iload 6, 2) := by decide +kernel
theorem dX10_sortEnds_52 : decode cX10_sortEnds 52 = .ok (.iload 9, 2) := by decide +kernel
theorem dX10_sortEnds_54 : decode cX10_sortEnds 54 = .ok (.ifCond .eq 14, 3) := by decide +kernel
theorem dX10_sortEnds_57 : decode cX10_sortEnds 57 = .ok (.iload 8, 2) := by decide +kernel
theorem dX10_sortEnds_59 : decode cX10_sortEnds 59 = .ok (.iload 5, 2) := by decide +kernel
theorem dX10_sortEnds_61 : decode cX10_sortEnds 61 = .ok (.if_icmp .ge 7, 3) := by decide +kernel
theorem dX10_sortEnds_64 : decode cX10_sortEnds 64 = .ok (.iconst 1, 1) := by decide +kernel
theorem dX10_sortEnds_65 : decode cX10_sortEnds 65 = .ok (.goto 4, 3) := by decide +kernel
theorem dX10_sortEnds_68 : decode cX10_sortEnds 68 = .ok (.iconst 0, 1) := by decide +kernel
theorem dX10_sortEnds_69 : decode cX10_sortEnds 69 = .ok (.iadd, 1) := by decide +kernel
theorem dX10_sortEnds_70 : decode cX10_sortEnds 70 = .ok (.istore 6, 2) := by decide +kernel
theorem dX10_sortEnds_72 : decode cX10_sortEnds 72 = .ok (.iload 7, 2) := by decide +kernel
theorem dX10_sortEnds_74 : decode cX10_sortEnds 74 = .ok (.iload 9, 2) := by decide +kernel
theorem dX10_sortEnds_76 : decode cX10_sortEnds 76 = .ok (.ifCond .eq 7, 3) := by decide +kernel
theorem dX10_sortEnds_79 : decode cX10_sortEnds 79 = .ok (.iconst 1, 1) := by decide +kernel
theorem dX10_sortEnds_80 : decode cX10_sortEnds 80 = .ok (.goto 4, 3) := by decide +kernel
theorem dX10_sortEnds_83 : decode cX10_sortEnds 83 = .ok (.iconst 0, 1) := by decide +kernel
theorem dX10_sortEnds_84 : decode cX10_sortEnds 84 = .ok (.iadd, 1) := by decide +kernel
theorem dX10_sortEnds_85 : decode cX10_sortEnds 85 = .ok (.istore 7, 2) := by decide +kernel
theorem dX10_sortEnds_87 : decode cX10_sortEnds 87 = .ok (.iinc 8 1, 3) := by decide +kernel
theorem dX10_sortEnds_90 : decode cX10_sortEnds 90 = .ok (.goto (-59), 3) := by decide +kernel
theorem dX10_sortEnds_93 : decode cX10_sortEnds 93 = .ok (.iload_n 3, 1) := by decide +kernel
theorem dX10_sortEnds_94 : decode cX10_sortEnds 94 = .ok (.iload 6, 2) := by decide +kernel
theorem dX10_sortEnds_96 : decode cX10_sortEnds 96 = .ok (.ifCond .ne 7, 3) := by decide +kernel
theorem dX10_sortEnds_99 : decode cX10_sortEnds 99 = .ok (.iconst 1, 1) := by decide +kernel
theorem dX10_sortEnds_100 : decode cX10_sortEnds 100 = .ok (.goto 4, 3) := by decide +kernel
theorem dX10_sortEnds_103 : decode cX10_sortEnds 103 = .ok (.iconst 0, 1) := by decide +kernel
theorem dX10_sortEnds_104 : decode cX10_sortEnds 104 = .ok (.iadd, 1) := by decide +kernel
theorem dX10_sortEnds_105 : decode cX10_sortEnds 105 = .ok (.istore_n 3, 1) := by decide +kernel
theorem dX10_sortEnds_106 : decode cX10_sortEnds 106 = .ok (.iload 7, 2) := by decide +kernel
theorem dX10_sortEnds_108 : decode cX10_sortEnds 108 = .ok (.iload 4, 2) := by decide +kernel
theorem dX10_sortEnds_110 : decode cX10_sortEnds 110 = .ok (.if_icmp .le 8, 3) := by decide +kernel
theorem dX10_sortEnds_113 : decode cX10_sortEnds 113 = .ok (.iload 7, 2) := by decide +kernel
theorem dX10_sortEnds_115 : decode cX10_sortEnds 115 = .ok (.goto 5, 3) := by decide +kernel
theorem dX10_sortEnds_118 : decode cX10_sortEnds 118 = .ok (.iload 4, 2) := by decide +kernel
theorem dX10_sortEnds_120 : decode cX10_sortEnds 120 = .ok (.istore 4, 2) := by decide +kernel
theorem dX10_sortEnds_122 : decode cX10_sortEnds 122 = .ok (.iinc 5 1, 3) := by decide +kernel
theorem dX10_sortEnds_125 : decode cX10_sortEnds 125 = .ok (.goto (-112), 3) := by decide +kernel
theorem dX10_sortEnds_128 : decode cX10_sortEnds 128 = .ok (.iload_n 2, 1) := by decide +kernel
theorem dX10_sortEnds_129 : decode cX10_sortEnds 129 = .ok (.ifCond .eq 8, 3) := by decide +kernel
theorem dX10_sortEnds_132 : decode cX10_sortEnds 132 = .ok (.iload 4, 2) := by decide +kernel
theorem dX10_sortEnds_134 : decode cX10_sortEnds 134 = .ok (.goto 4, 3) := by decide +kernel
theorem dX10_sortEnds_137 : decode cX10_sortEnds 137 = .ok (.iload_n 3, 1) := by decide +kernel
theorem dX10_sortEnds_138 : decode cX10_sortEnds 138 = .ok (.ireturn, 1) := by decide +kernel
theorem dX10_differs_0 : decode cX10_differs 0 = .ok (.aload_n 0, 1) := by decide +kernel
theorem dX10_differs_1 : decode cX10_differs 1 = .ok (.iload_n 1, 1) := by decide +kernel
theorem dX10_differs_2 : decode cX10_differs 2 = .ok (.invokevirtual 105, 3) := by decide +kernel
theorem dX10_differs_5 : decode cX10_differs 5 = .ok (.ifCond .ne 5, 3) := by decide +kernel
theorem dX10_differs_8 : decode cX10_differs 8 = .ok (.iconst (-1), 1) := by decide +kernel
theorem dX10_differs_9 : decode cX10_differs 9 = .ok (.ireturn, 1) := by decide +kernel
theorem dX10_differs_10 : decode cX10_differs 10 = .ok (.aload_n 0, 1) := by decide +kernel
theorem dX10_differs_11 : decode cX10_differs 11 = .ok (.invokevirtual 235, 3) := by decide +kernel
theorem dX10_differs_14 : decode cX10_differs 14 = .ok (.istore_n 2, 1) := by decide +kernel
theorem dX10_differs_15 : decode cX10_differs 15 = .ok (.iload_n 2, 1) := by decide +kernel
theorem dX10_differs_16 : decode cX10_differs 16 = .ok (.ifCond .ge 7, 3) := by decide +kernel
theorem dX10_differs_19 : decode cX10_differs 19 = .ok (.iload_n 2, 1) := by decide +kernel
theorem dX10_differs_20 : decode cX10_differs 20 = .ok (.goto 9, 3) := by decide +kernel
theorem dX10_differs_23 : decode cX10_differs 23 = .ok (.aload_n 0, 1) := by decide +kernel
theorem dX10_differs_24 : decode cX10_differs 24 = .ok (.iload_n 1, 1) := by decide +kernel
theorem dX10_differs_25 : decode cX10_differs 25 = .ok (.iconst 0, 1) := by decide +kernel
theorem dX10_differs_26 : decode cX10_differs 26 = .ok (.invokevirtual 253, 3) := by decide +kernel
theorem dX10_differs_29 : decode cX10_differs 29 = .ok (.ireturn, 1) := by decide +kernel
theorem dX10_settle_0 : decode cX10_settle 0 = .ok (.aload_n 0, 1) := by decide +kernel
theorem dX10_settle_1 : decode cX10_settle 1 = .ok (.invokevirtual 235, 3) := by decide +kernel
theorem dX10_settle_4 : decode cX10_settle 4 = .ok (.istore_n 1, 1) := by decide +kernel
theorem dX10_settle_5 : decode cX10_settle 5 = .ok (.iload_n 1, 1) := by decide +kernel
theorem dX10_settle_6 : decode cX10_settle 6 = .ok (.ifCond .ge 5, 3) := by decide +kernel
theorem dX10_settle_9 : decode cX10_settle 9 = .ok (.iload_n 1, 1) := by decide +kernel
theorem dX10_settle_10 : decode cX10_settle 10 = .ok (.ireturn, 1) := by decide +kernel
theorem dX10_settle_11 : decode cX10_settle 11 = .ok (.bipush (-4), 2) := by decide +kernel
theorem dX10_settle_13 : decode cX10_settle 13 = .ok (.istore_n 2, 1) := by decide +kernel
theorem dX10_settle_14 : decode cX10_settle 14 = .ok (.iconst 0, 1) := by decide +kernel
theorem dX10_settle_15 : decode cX10_settle 15 = .ok (.istore_n 3, 1) := by decide +kernel
theorem dX10_settle_16 : decode cX10_settle 16 = .ok (.iconst 0, 1) := by decide +kernel
theorem dX10_settle_17 : decode cX10_settle 17 = .ok (.istore 4, 2) := by decide +kernel
theorem dX10_settle_19 : decode cX10_settle 19 = .ok (.iload 4, 2) := by decide +kernel
theorem dX10_settle_21 : decode cX10_settle 21 = .ok (.aload_n 0, 1) := by decide +kernel
theorem dX10_settle_22 : decode cX10_settle 22 = .ok (.getfield 80, 3) := by decide +kernel
theorem dX10_settle_25 : decode cX10_settle 25 = .ok (.if_icmp .ge 45, 3) := by decide +kernel
theorem dX10_settle_28 : decode cX10_settle 28 = .ok (.aload_n 0, 1) := by decide +kernel
theorem dX10_settle_29 : decode cX10_settle 29 = .ok (.getfield 16, 3) := by decide +kernel
theorem dX10_settle_32 : decode cX10_settle 32 = .ok (.iload 4, 2) := by decide +kernel
theorem dX10_settle_34 : decode cX10_settle 34 = .ok (.iaload, 1) := by decide +kernel
theorem dX10_settle_35 : decode cX10_settle 35 = .ok (.iconst 1, 1) := by decide +kernel
theorem dX10_settle_36 : decode cX10_settle 36 = .ok (.if_icmp .eq 28, 3) := by decide +kernel
theorem dX10_settle_39 : decode cX10_settle 39 = .ok (.aload_n 0, 1) := by decide +kernel
theorem dX10_settle_40 : decode cX10_settle 40 = .ok (.iload 4, 2) := by decide +kernel
theorem dX10_settle_42 : decode cX10_settle 42 = .ok (.iconst 1, 1) := by decide +kernel
theorem dX10_settle_43 : decode cX10_settle 43 = .ok (.invokevirtual 253, 3) := by decide +kernel
theorem dX10_settle_46 : decode cX10_settle 46 = .ok (.istore 5, 2) := by decide +kernel
theorem dX10_settle_48 : decode cX10_settle 48 = .ok (.iload_n 2, 1) := by decide +kernel
theorem dX10_settle_49 : decode cX10_settle 49 = .ok (.ifCond .lt 9, 3) := by decide +kernel
theorem dX10_settle_52 : decode cX10_settle 52 = .ok (.iload 5, 2) := by decide +kernel
theorem dX10_settle_54 : decode cX10_settle 54 = .ok (.iload_n 3, 1) := by decide +kernel
theorem dX10_settle_55 : decode cX10_settle 55 = .ok (.if_icmp .ge 9, 3) := by decide +kernel
theorem dX10_settle_58 : decode cX10_settle 58 = .ok (.iload 4, 2) := by decide +kernel
theorem dX10_settle_60 : decode cX10_settle 60 = .ok (.istore_n 2, 1) := by decide +kernel
theorem dX10_settle_61 : decode cX10_settle 61 = .ok (.iload 5, 2) := by decide +kernel
theorem dX10_settle_63 : decode cX10_settle 63 = .ok (.istore_n 3, 1) := by decide +kernel
theorem dX10_settle_64 : decode cX10_settle 64 = .ok (.iinc 4 1, 3) := by decide +kernel
theorem dX10_settle_67 : decode cX10_settle 67 = .ok (.goto (-48), 3) := by decide +kernel
theorem dX10_settle_70 : decode cX10_settle 70 = .ok (.iload_n 2, 1) := by decide +kernel
theorem dX10_settle_71 : decode cX10_settle 71 = .ok (.ireturn, 1) := by decide +kernel
theorem dX10_kindOf_0 : decode cX10_kindOf 0 = .ok (.iload_n 0, 1) := by decide +kernel
theorem dX10_kindOf_1 : decode cX10_kindOf 1 = .ok (.invokestatic 123, 3) := by decide +kernel
theorem dX10_kindOf_4 : decode cX10_kindOf 4 = .ok (.ifCond .eq 7, 3) := by decide +kernel
theorem dX10_kindOf_7 : decode cX10_kindOf 7 = .ok (.iconst 1, 1) := by decide +kernel
theorem dX10_kindOf_8 : decode cX10_kindOf 8 = .ok (.goto 26, 3) := by decide +kernel
theorem dX10_kindOf_11 : decode cX10_kindOf 11 = .ok (.iload_n 0, 1) := by decide +kernel
theorem dX10_kindOf_12 : decode cX10_kindOf 12 = .ok (.invokestatic 129, 3) := by decide +kernel
theorem dX10_kindOf_15 : decode cX10_kindOf 15 = .ok (.ifCond .eq 7, 3) := by decide +kernel
theorem dX10_kindOf_18 : decode cX10_kindOf 18 = .ok (.iconst 2, 1) := by decide +kernel
theorem dX10_kindOf_19 : decode cX10_kindOf 19 = .ok (.goto 15, 3) := by decide +kernel
theorem dX10_kindOf_22 : decode cX10_kindOf 22 = .ok (.iload_n 0, 1) := by decide +kernel
theorem dX10_kindOf_23 : decode cX10_kindOf 23 = .ok (.invokestatic 126, 3) := by decide +kernel
theorem dX10_kindOf_26 : decode cX10_kindOf 26 = .ok (.ifCond .eq 7, 3) := by decide +kernel
theorem dX10_kindOf_29 : decode cX10_kindOf 29 = .ok (.iconst 3, 1) := by decide +kernel
theorem dX10_kindOf_30 : decode cX10_kindOf 30 = .ok (.goto 4, 3) := by decide +kernel
theorem dX10_kindOf_33 : decode cX10_kindOf 33 = .ok (.iconst 4, 1) := by decide +kernel
theorem dX10_kindOf_34 : decode cX10_kindOf 34 = .ok (.ireturn, 1) := by decide +kernel
theorem dX10_findShape_0 : decode cX10_findShape 0 = .ok (.aload_n 0, 1) := by decide +kernel
theorem dX10_findShape_1 : decode cX10_findShape 1 = .ok (.iconst 0, 1) := by decide +kernel
theorem dX10_findShape_2 : decode cX10_findShape 2 = .ok (.putfield 256, 3) := by decide +kernel
theorem dX10_findShape_5 : decode cX10_findShape 5 = .ok (.iconst 0, 1) := by decide +kernel
theorem dX10_findShape_6 : decode cX10_findShape 6 = .ok (.istore 4, 2) := by decide +kernel
theorem dX10_findShape_8 : decode cX10_findShape 8 = .ok (.iload 4, 2) := by decide +kernel
theorem dX10_findShape_10 : decode cX10_findShape 10 = .ok (.iload_n 3, 1) := by decide +kernel
theorem dX10_findShape_11 : decode cX10_findShape 11 = .ok (.if_icmp .ge 64, 3) := by decide +kernel
theorem dX10_findShape_14 : decode cX10_findShape 14 = .ok (.aload_n 1, 1) := by decide +kernel
theorem dX10_findShape_15 : decode cX10_findShape 15 = .ok (.iload_n 2, 1) := by decide +kernel
theorem dX10_findShape_16 : decode cX10_findShape 16 = .ok (.iload 4, 2) := by decide +kernel
theorem dX10_findShape_18 : decode cX10_findShape 18 = .ok (.iadd, 1) := by decide +kernel
theorem dX10_findShape_19 : decode cX10_findShape 19 = .ok (.iaload, 1) := by decide +kernel
theorem dX10_findShape_20 : decode cX10_findShape 20 = .ok (.invokestatic 259, 3) := by decide +kernel
theorem dX10_findShape_23 : decode cX10_findShape 23 = .ok (.istore 5, 2) := by decide +kernel
theorem dX10_findShape_25 : decode cX10_findShape 25 = .ok (.aload_n 0, 1) := by decide +kernel
theorem dX10_findShape_26 : decode cX10_findShape 26 = .ok (.getfield 256, 3) := by decide +kernel
theorem dX10_findShape_29 : decode cX10_findShape 29 = .ok (.ifCond .eq 19, 3) := by decide +kernel
theorem dX10_findShape_32 : decode cX10_findShape 32 = .ok (.aload_n 0, 1) := by decide +kernel
theorem dX10_findShape_33 : decode cX10_findShape 33 = .ok (.getfield 62, 3) := by decide +kernel
theorem dX10_findShape_36 : decode cX10_findShape 36 = .ok (.aload_n 0, 1) := by decide +kernel
theorem dX10_findShape_37 : decode cX10_findShape 37 = .ok (.getfield 256, 3) := by decide +kernel
theorem dX10_findShape_40 : decode cX10_findShape 40 = .ok (.iconst 1, 1) := by decide +kernel
theorem dX10_findShape_41 : decode cX10_findShape 41 = .ok (.isub, 1) := by decide +kernel
theorem dX10_findShape_42 : decode cX10_findShape 42 = .ok (.iaload, 1) := by decide +kernel
theorem dX10_findShape_43 : decode cX10_findShape 43 = .ok (.iload 5, 2) := by decide +kernel
theorem dX10_findShape_45 : decode cX10_findShape 45 = .ok (.if_icmp .eq 24, 3) := by decide +kernel
theorem dX10_findShape_48 : decode cX10_findShape 48 = .ok (.aload_n 0, 1) := by decide +kernel
theorem dX10_findShape_49 : decode cX10_findShape 49 = .ok (.getfield 62, 3) := by decide +kernel
theorem dX10_findShape_52 : decode cX10_findShape 52 = .ok (.aload_n 0, 1) := by decide +kernel
theorem dX10_findShape_53 : decode cX10_findShape 53 = .ok (.getfield 256, 3) := by decide +kernel
theorem dX10_findShape_56 : decode cX10_findShape 56 = .ok (.iload 5, 2) := by decide +kernel
theorem dX10_findShape_58 : decode cX10_findShape 58 = .ok (.iastore, 1) := by decide +kernel
theorem dX10_findShape_59 : decode cX10_findShape 59 = .ok (.aload_n 0, 1) := by decide +kernel
theorem dX10_findShape_60 : decode cX10_findShape 60 = .ok (.dup, 1) := by decide +kernel
theorem dX10_findShape_61 : decode cX10_findShape 61 = .ok (.getfield 256, 3) := by decide +kernel
theorem dX10_findShape_64 : decode cX10_findShape 64 = .ok (.iconst 1, 1) := by decide +kernel
theorem dX10_findShape_65 : decode cX10_findShape 65 = .ok (.iadd, 1) := by decide +kernel
theorem dX10_findShape_66 : decode cX10_findShape 66 = .ok (.putfield 256, 3) := by decide +kernel
theorem dX10_findShape_69 : decode cX10_findShape 69 = .ok (.iinc 4 1, 3) := by decide +kernel
theorem dX10_findShape_72 : decode cX10_findShape 72 = .ok (.goto (-64), 3) := by decide +kernel
theorem dX10_findShape_75 : decode cX10_findShape 75 = .ok (.return_, 1) := by decide +kernel
theorem dX10_hasShape_0 : decode cX10_hasShape 0 = .ok (.iconst 0, 1) := by decide +kernel
theorem dX10_hasShape_1 : decode cX10_hasShape 1 = .ok (.istore_n 2, 1) := by decide +kernel
theorem dX10_hasShape_2 : decode cX10_hasShape 2 = .ok (.iconst 1, 1) := by decide +kernel
theorem dX10_hasShape_3 : decode cX10_hasShape 3 = .ok (.istore_n 3, 1) := by decide +kernel
theorem dX10_hasShape_4 : decode cX10_hasShape 4 = .ok (.iconst 0, 1) := by decide +kernel
theorem dX10_hasShape_5 : decode cX10_hasShape 5 = .ok (.istore 4, 2) := by decide +kernel
theorem dX10_hasShape_7 : decode cX10_hasShape 7 = .ok (.iload 4, 2) := by decide +kernel
theorem dX10_hasShape_9 : decode cX10_hasShape 9 = .ok (.aload_n 0, 1) := by decide +kernel
theorem dX10_hasShape_10 : decode cX10_hasShape 10 = .ok (.getfield 22, 3) := by decide +kernel
theorem dX10_hasShape_13 : decode cX10_hasShape 13 = .ok (.iload_n 1, 1) := by decide +kernel
theorem dX10_hasShape_14 : decode cX10_hasShape 14 = .ok (.iaload, 1) := by decide +kernel
theorem dX10_hasShape_15 : decode cX10_hasShape 15 = .ok (.if_icmp .ge 85, 3) := by decide +kernel
theorem dX10_hasShape_18 : decode cX10_hasShape 18 = .ok (.aload_n 0, 1) := by decide +kernel
theorem dX10_hasShape_19 : decode cX10_hasShape 19 = .ok (.getfield 19, 3) := by decide +kernel
theorem dX10_hasShape_22 : decode cX10_hasShape 22 = .ok (.bipush 36, 2) := by decide +kernel
theorem dX10_hasShape_24 : decode cX10_hasShape 24 = .ok (.iload_n 1, 1) := by decide +kernel
theorem dX10_hasShape_25 : decode cX10_hasShape 25 = .ok (.imul, 1) := by decide +kernel
theorem dX10_hasShape_26 : decode cX10_hasShape 26 = .ok (.iload 4, 2) := by decide +kernel
theorem dX10_hasShape_28 : decode cX10_hasShape 28 = .ok (.iadd, 1) := by decide +kernel
theorem dX10_hasShape_29 : decode cX10_hasShape 29 = .ok (.iaload, 1) := by decide +kernel
theorem dX10_hasShape_30 : decode cX10_hasShape 30 = .ok (.invokestatic 259, 3) := by decide +kernel
theorem dX10_hasShape_33 : decode cX10_hasShape 33 = .ok (.istore 5, 2) := by decide +kernel
theorem dX10_hasShape_35 : decode cX10_hasShape 35 = .ok (.iload 4, 2) := by decide +kernel
theorem dX10_hasShape_37 : decode cX10_hasShape 37 = .ok (.ifCond .eq 25, 3) := by decide +kernel
theorem dX10_hasShape_40 : decode cX10_hasShape 40 = .ok (.iload 5, 2) := by decide +kernel
theorem dX10_hasShape_42 : decode cX10_hasShape 42 = .ok (.aload_n 0, 1) := by decide +kernel
theorem dX10_hasShape_43 : decode cX10_hasShape 43 = .ok (.getfield 19, 3) := by decide +kernel
theorem dX10_hasShape_46 : decode cX10_hasShape 46 = .ok (.bipush 36, 2) := by decide +kernel
theorem dX10_hasShape_48 : decode cX10_hasShape 48 = .ok (.iload_n 1, 1) := by decide +kernel
theorem dX10_hasShape_49 : decode cX10_hasShape 49 = .ok (.imul, 1) := by decide +kernel
theorem dX10_hasShape_50 : decode cX10_hasShape 50 = .ok (.iload 4, 2) := by decide +kernel
theorem dX10_hasShape_52 : decode cX10_hasShape 52 = .ok (.iadd, 1) := by decide +kernel
theorem dX10_hasShape_53 : decode cX10_hasShape 53 = .ok (.iconst 1, 1) := by decide +kernel
theorem dX10_hasShape_54 : decode cX10_hasShape 54 = .ok (.isub, 1) := by decide +kernel
theorem dX10_hasShape_55 : decode cX10_hasShape 55 = .ok (.iaload, 1) := by decide +kernel
theorem dX10_hasShape_56 : decode cX10_hasShape 56 = .ok (.invokestatic 259, 3) := by decide +kernel
theorem dX10_hasShape_59 : decode cX10_hasShape 59 = .ok (.if_icmp .eq 35, 3) := by decide +kernel
theorem dX10_hasShape_62 : decode cX10_hasShape 62 = .ok (.iload_n 3, 1) := by decide +kernel
theorem dX10_hasShape_63 : decode cX10_hasShape 63 = .ok (.ifCond .eq 26, 3) := by decide +kernel
theorem dX10_hasShape_66 : decode cX10_hasShape 66 = .ok (.iload_n 2, 1) := by decide +kernel
theorem dX10_hasShape_67 : decode cX10_hasShape 67 = .ok (.aload_n 0, 1) := by decide +kernel
theorem dX10_hasShape_68 : decode cX10_hasShape 68 = .ok (.getfield 256, 3) := by decide +kernel
theorem dX10_hasShape_71 : decode cX10_hasShape 71 = .ok (.if_icmp .ge 18, 3) := by decide +kernel
theorem dX10_hasShape_74 : decode cX10_hasShape 74 = .ok (.aload_n 0, 1) := by decide +kernel
theorem dX10_hasShape_75 : decode cX10_hasShape 75 = .ok (.getfield 62, 3) := by decide +kernel
theorem dX10_hasShape_78 : decode cX10_hasShape 78 = .ok (.iload_n 2, 1) := by decide +kernel
theorem dX10_hasShape_79 : decode cX10_hasShape 79 = .ok (.iaload, 1) := by decide +kernel
theorem dX10_hasShape_80 : decode cX10_hasShape 80 = .ok (.iload 5, 2) := by decide +kernel
theorem dX10_hasShape_82 : decode cX10_hasShape 82 = .ok (.if_icmp .ne 7, 3) := by decide +kernel
theorem dX10_hasShape_85 : decode cX10_hasShape 85 = .ok (.iconst 1, 1) := by decide +kernel
theorem dX10_hasShape_86 : decode cX10_hasShape 86 = .ok (.goto 4, 3) := by decide +kernel
theorem dX10_hasShape_89 : decode cX10_hasShape 89 = .ok (.iconst 0, 1) := by decide +kernel
theorem dX10_hasShape_90 : decode cX10_hasShape 90 = .ok (.istore_n 3, 1) := by decide +kernel
theorem dX10_hasShape_91 : decode cX10_hasShape 91 = .ok (.iinc 2 1, 3) := by decide +kernel
theorem dX10_hasShape_94 : decode cX10_hasShape 94 = .ok (.iinc 4 1, 3) := by decide +kernel
theorem dX10_hasShape_97 : decode cX10_hasShape 97 = .ok (.goto (-90), 3) := by decide +kernel
theorem dX10_hasShape_100 : decode cX10_hasShape 100 = .ok (.iload_n 3, 1) := by decide +kernel
theorem dX10_hasShape_101 : decode cX10_hasShape 101 = .ok (.ifCond .eq 15, 3) := by decide +kernel
theorem dX10_hasShape_104 : decode cX10_hasShape 104 = .ok (.iload_n 2, 1) := by decide +kernel
theorem dX10_hasShape_105 : decode cX10_hasShape 105 = .ok (.aload_n 0, 1) := by decide +kernel
theorem dX10_hasShape_106 : decode cX10_hasShape 106 = .ok (.getfield 256, 3) := by decide +kernel
theorem dX10_hasShape_109 : decode cX10_hasShape 109 = .ok (.if_icmp .ne 7, 3) := by decide +kernel
theorem dX10_hasShape_112 : decode cX10_hasShape 112 = .ok (.iconst 1, 1) := by decide +kernel
theorem dX10_hasShape_113 : decode cX10_hasShape 113 = .ok (.goto 4, 3) := by decide +kernel
theorem dX10_hasShape_116 : decode cX10_hasShape 116 = .ok (.iconst 0, 1) := by decide +kernel
theorem dX10_hasShape_117 : decode cX10_hasShape 117 = .ok (.ireturn, 1) := by decide +kernel
theorem dX10_isOdd_0 : decode cX10_isOdd 0 = .ok (.aload_n 0, 1) := by decide +kernel
theorem dX10_isOdd_1 : decode cX10_isOdd 1 = .ok (.aload_n 0, 1) := by decide +kernel
theorem dX10_isOdd_2 : decode cX10_isOdd 2 = .ok (.getfield 53, 3) := by decide +kernel
theorem dX10_isOdd_5 : decode cX10_isOdd 5 = .ok (.iconst 0, 1) := by decide +kernel
theorem dX10_isOdd_6 : decode cX10_isOdd 6 = .ok (.iload_n 1, 1) := by decide +kernel
theorem dX10_isOdd_7 : decode cX10_isOdd 7 = .ok (.invokevirtual 243, 3) := by decide +kernel
theorem dX10_isOdd_10 : decode cX10_isOdd 10 = .ok (.ifCond .ne 5, 3) := by decide +kernel
theorem dX10_isOdd_13 : decode cX10_isOdd 13 = .ok (.iconst 1, 1) := by decide +kernel
theorem dX10_isOdd_14 : decode cX10_isOdd 14 = .ok (.ireturn, 1) := by decide +kernel
theorem dX10_isOdd_15 : decode cX10_isOdd 15 = .ok (.aload_n 0, 1) := by decide +kernel
theorem dX10_isOdd_16 : decode cX10_isOdd 16 = .ok (.aload_n 0, 1) := by decide +kernel
theorem dX10_isOdd_17 : decode cX10_isOdd 17 = .ok (.getfield 31, 3) := by decide +kernel
theorem dX10_isOdd_20 : decode cX10_isOdd 20 = .ok (.iconst 0, 1) := by decide +kernel
theorem dX10_isOdd_21 : decode cX10_isOdd 21 = .ok (.aload_n 0, 1) := by decide +kernel
theorem dX10_isOdd_22 : decode cX10_isOdd 22 = .ok (.getfield 150, 3) := by decide +kernel
theorem dX10_isOdd_25 : decode cX10_isOdd 25 = .ok (.invokevirtual 262, 3) := by decide +kernel
theorem dX10_isOdd_28 : decode cX10_isOdd 28 = .ok (.iconst 0, 1) := by decide +kernel
theorem dX10_isOdd_29 : decode cX10_isOdd 29 = .ok (.istore_n 2, 1) := by decide +kernel
theorem dX10_isOdd_30 : decode cX10_isOdd 30 = .ok (.iconst 0, 1) := by decide +kernel
theorem dX10_isOdd_31 : decode cX10_isOdd 31 = .ok (.istore_n 3, 1) := by decide +kernel
theorem dX10_isOdd_32 : decode cX10_isOdd 32 = .ok (.iload_n 3, 1) := by decide +kernel
theorem dX10_isOdd_33 : decode cX10_isOdd 33 = .ok (.aload_n 0, 1) := by decide +kernel
theorem dX10_isOdd_34 : decode cX10_isOdd 34 = .ok (.getfield 80, 3) := by decide +kernel
theorem dX10_isOdd_37 : decode cX10_isOdd 37 = .ok (.if_icmp .ge 37, 3) := by decide +kernel
theorem dX10_isOdd_40 : decode cX10_isOdd 40 = .ok (.iload_n 2, 1) := by decide +kernel
theorem dX10_isOdd_41 : decode cX10_isOdd 41 = .ok (.ifCond .ne 21, 3) := by decide +kernel
theorem dX10_isOdd_44 : decode cX10_isOdd 44 = .ok (.aload_n 0, 1) := by decide +kernel
theorem dX10_isOdd_45 : decode cX10_isOdd 45 = .ok (.getfield 16, 3) := by decide +kernel
theorem dX10_isOdd_48 : decode cX10_isOdd 48 = .ok (.iload_n 3, 1) := by decide +kernel
theorem dX10_isOdd_49 : decode cX10_isOdd 49 = .ok (.iaload, 1) := by decide +kernel
theorem dX10_isOdd_50 : decode cX10_isOdd 50 = .ok (.iconst 1, 1) := by decide +kernel
theorem dX10_isOdd_51 : decode cX10_isOdd 51 = .ok (.if_icmp .ne 15, 3) := by decide +kernel
theorem dX10_isOdd_54 : decode cX10_isOdd 54 = .ok (.aload_n 0, 1) := by decide +kernel
theorem dX10_isOdd_55 : decode cX10_isOdd 55 = .ok (.iload_n 3, 1) := by decide +kernel
theorem dX10_isOdd_56 : decode cX10_isOdd 56 = .ok (.invokevirtual 266, 3) := by decide +kernel
theorem dX10_isOdd_59 : decode cX10_isOdd 59 = .ok (.ifCond .eq 7, 3) := by decide +kernel
theorem dX10_isOdd_62 : decode cX10_isOdd 62 = .ok (.iconst 1, 1) := by decide +kernel
theorem dX10_isOdd_63 : decode cX10_isOdd 63 = .ok (.goto 4, 3) := by decide +kernel
theorem dX10_isOdd_66 : decode cX10_isOdd 66 = .ok (.iconst 0, 1) := by decide +kernel
theorem dX10_isOdd_67 : decode cX10_isOdd 67 = .ok (.istore_n 2, 1) := by decide +kernel
theorem dX10_isOdd_68 : decode cX10_isOdd 68 = .ok (.iinc 3 1, 3) := by decide +kernel
theorem dX10_isOdd_71 : decode cX10_isOdd 71 = .ok (.goto (-39), 3) := by decide +kernel
theorem dX10_isOdd_74 : decode cX10_isOdd 74 = .ok (.iload_n 2, 1) := by decide +kernel
theorem dX10_isOdd_75 : decode cX10_isOdd 75 = .ok (.ifCond .ne 7, 3) := by decide +kernel
theorem dX10_isOdd_78 : decode cX10_isOdd 78 = .ok (.iconst 1, 1) := by decide +kernel
theorem dX10_isOdd_79 : decode cX10_isOdd 79 = .ok (.goto 4, 3) := by decide +kernel
theorem dX10_isOdd_82 : decode cX10_isOdd 82 = .ok (.iconst 0, 1) := by decide +kernel
theorem dX10_isOdd_83 : decode cX10_isOdd 83 = .ok (.ireturn, 1) := by decide +kernel
theorem dX10_odd_0 : decode cX10_odd 0 = .ok (.aload_n 0, 1) := by decide +kernel
theorem dX10_odd_1 : decode cX10_odd 1 = .ok (.iload_n 1, 1) := by decide +kernel
theorem dX10_odd_2 : decode cX10_odd 2 = .ok (.invokevirtual 105, 3) := by decide +kernel
theorem dX10_odd_5 : decode cX10_odd 5 = .ok (.ifCond .ne 5, 3) := by decide +kernel
theorem dX10_odd_8 : decode cX10_odd 8 = .ok (.iconst (-1), 1) := by decide +kernel
theorem dX10_odd_9 : decode cX10_odd 9 = .ok (.ireturn, 1) := by decide +kernel
theorem dX10_odd_10 : decode cX10_odd 10 = .ok (.aload_n 0, 1) := by decide +kernel
theorem dX10_odd_11 : decode cX10_odd 11 = .ok (.invokevirtual 235, 3) := by decide +kernel
theorem dX10_odd_14 : decode cX10_odd 14 = .ok (.istore_n 2, 1) := by decide +kernel
theorem dX10_odd_15 : decode cX10_odd 15 = .ok (.iload_n 2, 1) := by decide +kernel
theorem dX10_odd_16 : decode cX10_odd 16 = .ok (.ifCond .ge 7, 3) := by decide +kernel
theorem dX10_odd_19 : decode cX10_odd 19 = .ok (.iload_n 2, 1) := by decide +kernel
theorem dX10_odd_20 : decode cX10_odd 20 = .ok (.goto 16, 3) := by decide +kernel
theorem dX10_odd_23 : decode cX10_odd 23 = .ok (.aload_n 0, 1) := by decide +kernel
theorem dX10_odd_24 : decode cX10_odd 24 = .ok (.iload_n 1, 1) := by decide +kernel
theorem dX10_odd_25 : decode cX10_odd 25 = .ok (.invokevirtual 269, 3) := by decide +kernel
theorem dX10_odd_28 : decode cX10_odd 28 = .ok (.ifCond .eq 7, 3) := by decide +kernel
theorem dX10_odd_31 : decode cX10_odd 31 = .ok (.iconst 1, 1) := by decide +kernel
theorem dX10_odd_32 : decode cX10_odd 32 = .ok (.goto 4, 3) := by decide +kernel
theorem dX10_odd_35 : decode cX10_odd 35 = .ok (.iconst 0, 1) := by decide +kernel
theorem dX10_odd_36 : decode cX10_odd 36 = .ok (.ireturn, 1) := by decide +kernel
theorem dX10_ones_0 : decode cX10_ones 0 = .ok (.iconst 0, 1) := by decide +kernel
theorem dX10_ones_1 : decode cX10_ones 1 = .ok (.istore_n 1, 1) := by decide +kernel
theorem dX10_ones_2 : decode cX10_ones 2 = .ok (.iload_n 0, 1) := by decide +kernel
theorem dX10_ones_3 : decode cX10_ones 3 = .ok (.istore_n 2, 1) := by decide +kernel
theorem dX10_ones_4 : decode cX10_ones 4 = .ok (.iload_n 2, 1) := by decide +kernel
theorem dX10_ones_5 : decode cX10_ones 5 = .ok (.ifCond .eq 15, 3) := by decide +kernel
theorem dX10_ones_8 : decode cX10_ones 8 = .ok (.iinc 1 1, 3) := by decide +kernel
theorem dX10_ones_11 : decode cX10_ones 11 = .ok (.iload_n 2, 1) := by decide +kernel
theorem dX10_ones_12 : decode cX10_ones 12 = .ok (.iload_n 2, 1) := by decide +kernel
theorem dX10_ones_13 : decode cX10_ones 13 = .ok (.iconst 1, 1) := by decide +kernel
theorem dX10_ones_14 : decode cX10_ones 14 = .ok (.isub, 1) := by decide +kernel
theorem dX10_ones_15 : decode cX10_ones 15 = .ok (.iand, 1) := by decide +kernel
theorem dX10_ones_16 : decode cX10_ones 16 = .ok (.istore_n 2, 1) := by decide +kernel
theorem dX10_ones_17 : decode cX10_ones 17 = .ok (.goto (-13), 3) := by decide +kernel
theorem dX10_ones_20 : decode cX10_ones 20 = .ok (.iload_n 1, 1) := by decide +kernel
theorem dX10_ones_21 : decode cX10_ones 21 = .ok (.ireturn, 1) := by decide +kernel
theorem dX10_fitsBut_0 : decode cX10_fitsBut 0 = .ok (.aload_n 0, 1) := by decide +kernel
theorem dX10_fitsBut_1 : decode cX10_fitsBut 1 = .ok (.iload_n 1, 1) := by decide +kernel
theorem dX10_fitsBut_2 : decode cX10_fitsBut 2 = .ok (.invokevirtual 205, 3) := by decide +kernel
theorem dX10_fitsBut_5 : decode cX10_fitsBut 5 = .ok (.aload_n 0, 1) := by decide +kernel
theorem dX10_fitsBut_6 : decode cX10_fitsBut 6 = .ok (.getfield 164, 3) := by decide +kernel
theorem dX10_fitsBut_9 : decode cX10_fitsBut 9 = .ok (.ifCond .ne 5, 3) := by decide +kernel
theorem dX10_fitsBut_12 : decode cX10_fitsBut 12 = .ok (.iconst 1, 1) := by decide +kernel
theorem dX10_fitsBut_13 : decode cX10_fitsBut 13 = .ok (.ireturn, 1) := by decide +kernel
theorem dX10_fitsBut_14 : decode cX10_fitsBut 14 = .ok (.aload_n 0, 1) := by decide +kernel
theorem dX10_fitsBut_15 : decode cX10_fitsBut 15 = .ok (.invokevirtual 209, 3) := by decide +kernel
theorem dX10_fitsBut_18 : decode cX10_fitsBut 18 = .ok (.aload_n 0, 1) := by decide +kernel
theorem dX10_fitsBut_19 : decode cX10_fitsBut 19 = .ok (.iconst 1, 1) := by decide +kernel
theorem dX10_fitsBut_20 : decode cX10_fitsBut 20 = .ok (.invokevirtual 212, 3) := by decide +kernel
theorem dX10_fitsBut_23 : decode cX10_fitsBut 23 = .ok (.lconst 0, 1) := by decide +kernel
theorem dX10_fitsBut_24 : decode cX10_fitsBut 24 = .ok (.lcmp, 1) := by decide +kernel
theorem dX10_fitsBut_25 : decode cX10_fitsBut 25 = .ok (.ifCond .gt 23, 3) := by decide +kernel
theorem dX10_fitsBut_28 : decode cX10_fitsBut 28 = .ok (.aload_n 0, 1) := by decide +kernel
theorem dX10_fitsBut_29 : decode cX10_fitsBut 29 = .ok (.iconst 2, 1) := by decide +kernel
theorem dX10_fitsBut_30 : decode cX10_fitsBut 30 = .ok (.invokevirtual 212, 3) := by decide +kernel
theorem dX10_fitsBut_33 : decode cX10_fitsBut 33 = .ok (.lconst 0, 1) := by decide +kernel
theorem dX10_fitsBut_34 : decode cX10_fitsBut 34 = .ok (.lcmp, 1) := by decide +kernel
theorem dX10_fitsBut_35 : decode cX10_fitsBut 35 = .ok (.ifCond .gt 13, 3) := by decide +kernel
theorem dX10_fitsBut_38 : decode cX10_fitsBut 38 = .ok (.aload_n 0, 1) := by decide +kernel
theorem dX10_fitsBut_39 : decode cX10_fitsBut 39 = .ok (.iconst 3, 1) := by decide +kernel
theorem dX10_fitsBut_40 : decode cX10_fitsBut 40 = .ok (.invokevirtual 212, 3) := by decide +kernel
theorem dX10_fitsBut_43 : decode cX10_fitsBut 43 = .ok (.lconst 0, 1) := by decide +kernel
theorem dX10_fitsBut_44 : decode cX10_fitsBut 44 = .ok (.lcmp, 1) := by decide +kernel
theorem dX10_fitsBut_45 : decode cX10_fitsBut 45 = .ok (.ifCond .le 7, 3) := by decide +kernel
theorem dX10_fitsBut_48 : decode cX10_fitsBut 48 = .ok (.iconst 1, 1) := by decide +kernel
theorem dX10_fitsBut_49 : decode cX10_fitsBut 49 = .ok (.goto 4, 3) := by decide +kernel
theorem dX10_fitsBut_52 : decode cX10_fitsBut 52 = .ok (.iconst 0, 1) := by decide +kernel
theorem dX10_fitsBut_53 : decode cX10_fitsBut 53 = .ok (.ireturn, 1) := by decide +kernel
theorem dX10_slips_0 : decode cX10_slips 0 = .ok (.iconst 0, 1) := by decide +kernel
theorem dX10_slips_1 : decode cX10_slips 1 = .ok (.istore_n 1, 1) := by decide +kernel
theorem dX10_slips_2 : decode cX10_slips 2 = .ok (.iconst 0, 1) := by decide +kernel
