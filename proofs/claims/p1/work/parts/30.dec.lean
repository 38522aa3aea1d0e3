theorem d_JA_fill_0 : decode b_JA_fill 0 = .ok (.iconst 0, 1) := by decide +kernel
theorem d_JA_fill_1 : decode b_JA_fill 1 = .ok (.istore_n 3, 1) := by decide +kernel
theorem d_JA_fill_2 : decode b_JA_fill 2 = .ok (.aload_n 0, 1) := by decide +kernel
theorem d_JA_fill_3 : decode b_JA_fill 3 = .ok (.arraylength, 1) := by decide +kernel
theorem d_JA_fill_4 : decode b_JA_fill 4 = .ok (.istore 4, 2) := by decide +kernel
theorem d_JA_fill_6 : decode b_JA_fill 6 = .ok (.iload_n 3, 1) := by decide +kernel
theorem d_JA_fill_7 : decode b_JA_fill 7 = .ok (.iload 4, 2) := by decide +kernel
theorem d_JA_fill_9 : decode b_JA_fill 9 = .ok (.if_icmp .ge 13, 3) := by decide +kernel
theorem d_JA_fill_12 : decode b_JA_fill 12 = .ok (.aload_n 0, 1) := by decide +kernel
theorem d_JA_fill_13 : decode b_JA_fill 13 = .ok (.iload_n 3, 1) := by decide +kernel
theorem d_JA_fill_14 : decode b_JA_fill 14 = .ok (.lload_n 1, 1) := by decide +kernel
theorem d_JA_fill_15 : decode b_JA_fill 15 = .ok (.lastore, 1) := by decide +kernel
theorem d_JA_fill_16 : decode b_JA_fill 16 = .ok (.iinc 3 1, 3) := by decide +kernel
theorem d_JA_fill_19 : decode b_JA_fill 19 = .ok (.goto (-13), 3) := by decide +kernel
theorem d_JA_fill_22 : decode b_JA_fill 22 = .ok (.return_, 1) := by decide +kernel
theorem d_F_set_0 : decode b_F_set 0 = .ok (.aload_n 0, 1) := by decide +kernel
theorem d_F_set_1 : decode b_F_set 1 = .ok (.lconst 0, 1) := by decide +kernel
theorem d_F_set_2 : decode b_F_set 2 = .ok (.invokestatic 33, 3) := by decide +kernel
theorem d_F_set_5 : decode b_F_set 5 = .ok (.aload_n 0, 1) := by decide +kernel
theorem d_F_set_6 : decode b_F_set 6 = .ok (.iconst 0, 1) := by decide +kernel
theorem d_F_set_7 : decode b_F_set 7 = .ok (.lload_n 1, 1) := by decide +kernel
theorem d_F_set_8 : decode b_F_set 8 = .ok (.lastore, 1) := by decide +kernel
theorem d_F_set_9 : decode b_F_set 9 = .ok (.return_, 1) := by decide +kernel
theorem d_F_copy_0 : decode b_F_copy 0 = .ok (.aload_n 1, 1) := by decide +kernel
theorem d_F_copy_1 : decode b_F_copy 1 = .ok (.iconst 0, 1) := by decide +kernel
theorem d_F_copy_2 : decode b_F_copy 2 = .ok (.aload_n 0, 1) := by decide +kernel
theorem d_F_copy_3 : decode b_F_copy 3 = .ok (.iconst 0, 1) := by decide +kernel
theorem d_F_copy_4 : decode b_F_copy 4 = .ok (.bipush 10, 2) := by decide +kernel
theorem d_F_copy_6 : decode b_F_copy 6 = .ok (.invokestatic 39, 3) := by decide +kernel
theorem d_F_copy_9 : decode b_F_copy 9 = .ok (.return_, 1) := by decide +kernel
theorem d_F_add_0 : decode b_F_add 0 = .ok (.iconst 0, 1) := by decide +kernel
theorem d_F_add_1 : decode b_F_add 1 = .ok (.istore_n 3, 1) := by decide +kernel
theorem d_F_add_2 : decode b_F_add 2 = .ok (.iload_n 3, 1) := by decide +kernel
theorem d_F_add_3 : decode b_F_add 3 = .ok (.bipush 10, 2) := by decide +kernel
theorem d_F_add_5 : decode b_F_add 5 = .ok (.if_icmp .ge 19, 3) := by decide +kernel
theorem d_F_add_8 : decode b_F_add 8 = .ok (.aload_n 0, 1) := by decide +kernel
theorem d_F_add_9 : decode b_F_add 9 = .ok (.iload_n 3, 1) := by decide +kernel
theorem d_F_add_10 : decode b_F_add 10 = .ok (.aload_n 1, 1) := by decide +kernel
theorem d_F_add_11 : decode b_F_add 11 = .ok (.iload_n 3, 1) := by decide +kernel
theorem d_F_add_12 : decode b_F_add 12 = .ok (.laload, 1) := by decide +kernel
theorem d_F_add_13 : decode b_F_add 13 = .ok (.aload_n 2, 1) := by decide +kernel
theorem d_F_add_14 : decode b_F_add 14 = .ok (.iload_n 3, 1) := by decide +kernel
theorem d_F_add_15 : decode b_F_add 15 = .ok (.laload, 1) := by decide +kernel
theorem d_F_add_16 : decode b_F_add 16 = .ok (.ladd, 1) := by decide +kernel
theorem d_F_add_17 : decode b_F_add 17 = .ok (.lastore, 1) := by decide +kernel
theorem d_F_add_18 : decode b_F_add 18 = .ok (.iinc 3 1, 3) := by decide +kernel
theorem d_F_add_21 : decode b_F_add 21 = .ok (.goto (-19), 3) := by decide +kernel
theorem d_F_add_24 : decode b_F_add 24 = .ok (.return_, 1) := by decide +kernel
theorem d_F_subtract_0 : decode b_F_subtract 0 = .ok (.iconst 0, 1) := by decide +kernel
theorem d_F_subtract_1 : decode b_F_subtract 1 = .ok (.istore_n 3, 1) := by decide +kernel
theorem d_F_subtract_2 : decode b_F_subtract 2 = .ok (.iload_n 3, 1) := by decide +kernel
theorem d_F_subtract_3 : decode b_F_subtract 3 = .ok (.bipush 10, 2) := by decide +kernel
theorem d_F_subtract_5 : decode b_F_subtract 5 = .ok (.if_icmp .ge 19, 3) := by decide +kernel
theorem d_F_subtract_8 : decode b_F_subtract 8 = .ok (.aload_n 0, 1) := by decide +kernel
theorem d_F_subtract_9 : decode b_F_subtract 9 = .ok (.iload_n 3, 1) := by decide +kernel
theorem d_F_subtract_10 : decode b_F_subtract 10 = .ok (.aload_n 1, 1) := by decide +kernel
theorem d_F_subtract_11 : decode b_F_subtract 11 = .ok (.iload_n 3, 1) := by decide +kernel
theorem d_F_subtract_12 : decode b_F_subtract 12 = .ok (.laload, 1) := by decide +kernel
theorem d_F_subtract_13 : decode b_F_subtract 13 = .ok (.aload_n 2, 1) := by decide +kernel
theorem d_F_subtract_14 : decode b_F_subtract 14 = .ok (.iload_n 3, 1) := by decide +kernel
theorem d_F_subtract_15 : decode b_F_subtract 15 = .ok (.laload, 1) := by decide +kernel
theorem d_F_subtract_16 : decode b_F_subtract 16 = .ok (.lsub, 1) := by decide +kernel
theorem d_F_subtract_17 : decode b_F_subtract 17 = .ok (.lastore, 1) := by decide +kernel
theorem d_F_subtract_18 : decode b_F_subtract 18 = .ok (.iinc 3 1, 3) := by decide +kernel
theorem d_F_subtract_21 : decode b_F_subtract 21 = .ok (.goto (-19), 3) := by decide +kernel
theorem d_F_subtract_24 : decode b_F_subtract 24 = .ok (.return_, 1) := by decide +kernel
theorem d_F_carry_0 : decode b_F_carry 0 = .ok (.lconst 0, 1) := by decide +kernel
theorem d_F_carry_1 : decode b_F_carry 1 = .ok (.lstore_n 1, 1) := by decide +kernel
theorem d_F_carry_2 : decode b_F_carry 2 = .ok (.iconst 0, 1) := by decide +kernel
theorem d_F_carry_3 : decode b_F_carry 3 = .ok (.istore_n 3, 1) := by decide +kernel
theorem d_F_carry_4 : decode b_F_carry 4 = .ok (.iload_n 3, 1) := by decide +kernel
theorem d_F_carry_5 : decode b_F_carry 5 = .ok (.bipush 10, 2) := by decide +kernel
theorem d_F_carry_7 : decode b_F_carry 7 = .ok (.if_icmp .ge 67, 3) := by decide +kernel
theorem d_F_carry_10 : decode b_F_carry 10 = .ok (.aload_n 0, 1) := by decide +kernel
theorem d_F_carry_11 : decode b_F_carry 11 = .ok (.iload_n 3, 1) := by decide +kernel
theorem d_F_carry_12 : decode b_F_carry 12 = .ok (.laload, 1) := by decide +kernel
theorem d_F_carry_13 : decode b_F_carry 13 = .ok (.lload_n 1, 1) := by decide +kernel
theorem d_F_carry_14 : decode b_F_carry 14 = .ok (.ladd, 1) := by decide +kernel
theorem d_F_carry_15 : decode b_F_carry 15 = .ok (.lstore 4, 2) := by decide +kernel
theorem d_F_carry_17 : decode b_F_carry 17 = .ok (.lload 4, 2) := by decide +kernel
theorem d_F_carry_19 : decode b_F_carry 19 = .ok (.ldc2_w 53, 3) := by decide +kernel
theorem d_F_carry_22 : decode b_F_carry 22 = .ok (.ladd, 1) := by decide +kernel
theorem d_F_carry_23 : decode b_F_carry 23 = .ok (.bipush 26, 2) := by decide +kernel
theorem d_F_carry_25 : decode b_F_carry 25 = .ok (.lshr, 1) := by decide +kernel
theorem d_F_carry_26 : decode b_F_carry 26 = .ok (.lstore_n 1, 1) := by decide +kernel
theorem d_F_carry_27 : decode b_F_carry 27 = .ok (.aload_n 0, 1) := by decide +kernel
theorem d_F_carry_28 : decode b_F_carry 28 = .ok (.iload_n 3, 1) := by decide +kernel
theorem d_F_carry_29 : decode b_F_carry 29 = .ok (.lload 4, 2) := by decide +kernel
theorem d_F_carry_31 : decode b_F_carry 31 = .ok (.lload_n 1, 1) := by decide +kernel
theorem d_F_carry_32 : decode b_F_carry 32 = .ok (.bipush 26, 2) := by decide +kernel
theorem d_F_carry_34 : decode b_F_carry 34 = .ok (.lshl, 1) := by decide +kernel
theorem d_F_carry_35 : decode b_F_carry 35 = .ok (.lsub, 1) := by decide +kernel
theorem d_F_carry_36 : decode b_F_carry 36 = .ok (.lastore, 1) := by decide +kernel
theorem d_F_carry_37 : decode b_F_carry 37 = .ok (.aload_n 0, 1) := by decide +kernel
theorem d_F_carry_38 : decode b_F_carry 38 = .ok (.iload_n 3, 1) := by decide +kernel
theorem d_F_carry_39 : decode b_F_carry 39 = .ok (.iconst 1, 1) := by decide +kernel
theorem d_F_carry_40 : decode b_F_carry 40 = .ok (.iadd, 1) := by decide +kernel
theorem d_F_carry_41 : decode b_F_carry 41 = .ok (.laload, 1) := by decide +kernel
theorem d_F_carry_42 : decode b_F_carry 42 = .ok (.lload_n 1, 1) := by decide +kernel
theorem d_F_carry_43 : decode b_F_carry 43 = .ok (.ladd, 1) := by decide +kernel
theorem d_F_carry_44 : decode b_F_carry 44 = .ok (.lstore 6, 2) := by decide +kernel
theorem d_F_carry_46 : decode b_F_carry 46 = .ok (.lload 6, 2) := by decide +kernel
theorem d_F_carry_48 : decode b_F_carry 48 = .ok (.ldc2_w 55, 3) := by decide +kernel
theorem d_F_carry_51 : decode b_F_carry 51 = .ok (.ladd, 1) := by decide +kernel
theorem d_F_carry_52 : decode b_F_carry 52 = .ok (.bipush 25, 2) := by decide +kernel
theorem d_F_carry_54 : decode b_F_carry 54 = .ok (.lshr, 1) := by decide +kernel
theorem d_F_carry_55 : decode b_F_carry 55 = .ok (.lstore_n 1, 1) := by decide +kernel
theorem d_F_carry_56 : decode b_F_carry 56 = .ok (.aload_n 0, 1) := by decide +kernel
theorem d_F_carry_57 : decode b_F_carry 57 = .ok (.iload_n 3, 1) := by decide +kernel
theorem d_F_carry_58 : decode b_F_carry 58 = .ok (.iconst 1, 1) := by decide +kernel
theorem d_F_carry_59 : decode b_F_carry 59 = .ok (.iadd, 1) := by decide +kernel
theorem d_F_carry_60 : decode b_F_carry 60 = .ok (.lload 6, 2) := by decide +kernel
theorem d_F_carry_62 : decode b_F_carry 62 = .ok (.lload_n 1, 1) := by decide +kernel
theorem d_F_carry_63 : decode b_F_carry 63 = .ok (.bipush 25, 2) := by decide +kernel
theorem d_F_carry_65 : decode b_F_carry 65 = .ok (.lshl, 1) := by decide +kernel
theorem d_F_carry_66 : decode b_F_carry 66 = .ok (.lsub, 1) := by decide +kernel
theorem d_F_carry_67 : decode b_F_carry 67 = .ok (.lastore, 1) := by decide +kernel
theorem d_F_carry_68 : decode b_F_carry 68 = .ok (.iinc 3 2, 3) := by decide +kernel
theorem d_F_carry_71 : decode b_F_carry 71 = .ok (.goto (-67), 3) := by decide +kernel
theorem d_F_carry_74 : decode b_F_carry 74 = .ok (.aload_n 0, 1) := by decide +kernel
theorem d_F_carry_75 : decode b_F_carry 75 = .ok (.iconst 0, 1) := by decide +kernel
theorem d_F_carry_76 : decode b_F_carry 76 = .ok (.laload, 1) := by decide +kernel
theorem d_F_carry_77 : decode b_F_carry 77 = .ok (.ldc2_w 51, 3) := by decide +kernel
theorem d_F_carry_80 : decode b_F_carry 80 = .ok (.lload_n 1, 1) := by decide +kernel
theorem d_F_carry_81 : decode b_F_carry 81 = .ok (.lmul, 1) := by decide +kernel
theorem d_F_carry_82 : decode b_F_carry 82 = .ok (.ladd, 1) := by decide +kernel
theorem d_F_carry_83 : decode b_F_carry 83 = .ok (.lstore_n 3, 1) := by decide +kernel
theorem d_F_carry_84 : decode b_F_carry 84 = .ok (.lload_n 3, 1) := by decide +kernel
theorem d_F_carry_85 : decode b_F_carry 85 = .ok (.ldc2_w 53, 3) := by decide +kernel
theorem d_F_carry_88 : decode b_F_carry 88 = .ok (.ladd, 1) := by decide +kernel
theorem d_F_carry_89 : decode b_F_carry 89 = .ok (.bipush 26, 2) := by decide +kernel
theorem d_F_carry_91 : decode b_F_carry 91 = .ok (.lshr, 1) := by decide +kernel
theorem d_F_carry_92 : decode b_F_carry 92 = .ok (.lstore_n 1, 1) := by decide +kernel
theorem d_F_carry_93 : decode b_F_carry 93 = .ok (.aload_n 0, 1) := by decide +kernel
theorem d_F_carry_94 : decode b_F_carry 94 = .ok (.iconst 0, 1) := by decide +kernel
theorem d_F_carry_95 : decode b_F_carry 95 = .ok (.lload_n 3, 1) := by decide +kernel
theorem d_F_carry_96 : decode b_F_carry 96 = .ok (.lload_n 1, 1) := by decide +kernel
theorem d_F_carry_97 : decode b_F_carry 97 = .ok (.bipush 26, 2) := by decide +kernel
theorem d_F_carry_99 : decode b_F_carry 99 = .ok (.lshl, 1) := by decide +kernel
theorem d_F_carry_100 : decode b_F_carry 100 = .ok (.lsub, 1) := by decide +kernel
theorem d_F_carry_101 : decode b_F_carry 101 = .ok (.lastore, 1) := by decide +kernel
theorem d_F_carry_102 : decode b_F_carry 102 = .ok (.aload_n 0, 1) := by decide +kernel
theorem d_F_carry_103 : decode b_F_carry 103 = .ok (.iconst 1, 1) := by decide +kernel
theorem d_F_carry_104 : decode b_F_carry 104 = .ok (.dup2, 1) := by decide +kernel
theorem d_F_carry_105 : decode b_F_carry 105 = .ok (.laload, 1) := by decide +kernel
theorem d_F_carry_106 : decode b_F_carry 106 = .ok (.lload_n 1, 1) := by decide +kernel
theorem d_F_carry_107 : decode b_F_carry 107 = .ok (.ladd, 1) := by decide +kernel
theorem d_F_carry_108 : decode b_F_carry 108 = .ok (.lastore, 1) := by decide +kernel
theorem d_F_carry_109 : decode b_F_carry 109 = .ok (.return_, 1) := by decide +kernel
