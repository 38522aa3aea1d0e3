theorem d_JA_fill_0 : decode b_JA_fill 0 = .ok (.iconst 0, 1) := by decide +kernel
theorem d_JA_fill_1 : decode b_JA_fill 1 = .ok (.istore_n 3, 1) := by decide +kernel
theorem d_JA_fill_2 : decode b_JA_fill 2 = .ok (.aload_n 0, 1) := by decide +kernel
theorem d_JA_fill_3 : decode b_JA_fill 3 = .ok (.arraylength, 1) := by decide +kernel
theorem d_JA_fill_4 : decode b_JA_fill 4 = .ok (.istore 4, 2) := by decide +kernel
theorem d_JA_fill_6 : decode b_JA_fill 6 = .ok (.iload_n 3, 1) := by decide +kernel
theorem d_JA_fill_7 : decode b_JA_fill 7 = .ok (.iload 4, 2) := by decide +kernel
theorem d_JA_fill_9 : decode b_JA_fill 9 = .ok (.if_icmp .ge 13, 3) := by decide +kernel
theorem d_JA_fill_12 : decode b_JA_fill 12 = .ok (.aload_n 0, 1) := by decide +kernel
theorem d_JA_fill_13 : decode b_JA_fill 13 = .ok (.iload_n 3, 1) := by decide +kernel
theorem d_JA_fill_14 : decode b_JA_fill 14 = .ok (.lload_n 1, 1) := by decide +kernel
theorem d_JA_fill_15 : decode b_JA_fill 15 = .ok (.lastore, 1) := by decide +kernel
theorem d_JA_fill_16 : decode b_JA_fill 16 = .ok (.iinc 3 1, 3) := by decide +kernel
theorem d_JA_fill_19 : decode b_JA_fill 19 = .ok (.goto (-13), 3) := by decide +kernel
theorem d_JA_fill_22 : decode b_JA_fill 22 = .ok (.return_, 1) := by decide +kernel
theorem d_JA_fillB_0 : decode b_JA_fillB 0 = .ok (.iconst 0, 1) := by decide +kernel
theorem d_JA_fillB_1 : decode b_JA_fillB 1 = .ok (.istore_n 2, 1) := by decide +kernel
theorem d_JA_fillB_2 : decode b_JA_fillB 2 = .ok (.aload_n 0, 1) := by decide +kernel
theorem d_JA_fillB_3 : decode b_JA_fillB 3 = .ok (.arraylength, 1) := by decide +kernel
theorem d_JA_fillB_4 : decode b_JA_fillB 4 = .ok (.istore_n 3, 1) := by decide +kernel
theorem d_JA_fillB_5 : decode b_JA_fillB 5 = .ok (.iload_n 2, 1) := by decide +kernel
theorem d_JA_fillB_6 : decode b_JA_fillB 6 = .ok (.iload_n 3, 1) := by decide +kernel
theorem d_JA_fillB_7 : decode b_JA_fillB 7 = .ok (.if_icmp .ge 13, 3) := by decide +kernel
theorem d_JA_fillB_10 : decode b_JA_fillB 10 = .ok (.aload_n 0, 1) := by decide +kernel
theorem d_JA_fillB_11 : decode b_JA_fillB 11 = .ok (.iload_n 2, 1) := by decide +kernel
theorem d_JA_fillB_12 : decode b_JA_fillB 12 = .ok (.iload_n 1, 1) := by decide +kernel
theorem d_JA_fillB_13 : decode b_JA_fillB 13 = .ok (.bastore, 1) := by decide +kernel
theorem d_JA_fillB_14 : decode b_JA_fillB 14 = .ok (.iinc 2 1, 3) := by decide +kernel
theorem d_JA_fillB_17 : decode b_JA_fillB 17 = .ok (.goto (-12), 3) := by decide +kernel
theorem d_JA_fillB_20 : decode b_JA_fillB 20 = .ok (.return_, 1) := by decide +kernel
theorem d_JA_fillR_0 : decode b_JA_fillR 0 = .ok (.aload_n 0, 1) := by decide +kernel
theorem d_JA_fillR_1 : decode b_JA_fillR 1 = .ok (.arraylength, 1) := by decide +kernel
theorem d_JA_fillR_2 : decode b_JA_fillR 2 = .ok (.iload_n 1, 1) := by decide +kernel
theorem d_JA_fillR_3 : decode b_JA_fillR 3 = .ok (.iload_n 2, 1) := by decide +kernel
theorem d_JA_fillR_4 : decode b_JA_fillR 4 = .ok (.invokestatic 13, 3) := by decide +kernel
theorem d_JA_fillR_7 : decode b_JA_fillR 7 = .ok (.iload_n 1, 1) := by decide +kernel
theorem d_JA_fillR_8 : decode b_JA_fillR 8 = .ok (.istore 4, 2) := by decide +kernel
theorem d_JA_fillR_10 : decode b_JA_fillR 10 = .ok (.iload 4, 2) := by decide +kernel
theorem d_JA_fillR_12 : decode b_JA_fillR 12 = .ok (.iload_n 2, 1) := by decide +kernel
theorem d_JA_fillR_13 : decode b_JA_fillR 13 = .ok (.if_icmp .ge 14, 3) := by decide +kernel
theorem d_JA_fillR_16 : decode b_JA_fillR 16 = .ok (.aload_n 0, 1) := by decide +kernel
theorem d_JA_fillR_17 : decode b_JA_fillR 17 = .ok (.iload 4, 2) := by decide +kernel
theorem d_JA_fillR_19 : decode b_JA_fillR 19 = .ok (.iload_n 3, 1) := by decide +kernel
theorem d_JA_fillR_20 : decode b_JA_fillR 20 = .ok (.bastore, 1) := by decide +kernel
theorem d_JA_fillR_21 : decode b_JA_fillR 21 = .ok (.iinc 4 1, 3) := by decide +kernel
theorem d_JA_fillR_24 : decode b_JA_fillR 24 = .ok (.goto (-14), 3) := by decide +kernel
theorem d_JA_fillR_27 : decode b_JA_fillR 27 = .ok (.return_, 1) := by decide +kernel
theorem d_JA_rangeCheck_0 : decode b_JA_rangeCheck 0 = .ok (.iload_n 1, 1) := by decide +kernel
theorem d_JA_rangeCheck_1 : decode b_JA_rangeCheck 1 = .ok (.iload_n 2, 1) := by decide +kernel
theorem d_JA_rangeCheck_2 : decode b_JA_rangeCheck 2 = .ok (.if_icmp .le 44, 3) := by decide +kernel
theorem d_JA_rangeCheck_46 : decode b_JA_rangeCheck 46 = .ok (.iload_n 1, 1) := by decide +kernel
theorem d_JA_rangeCheck_47 : decode b_JA_rangeCheck 47 = .ok (.ifCond .ge 12, 3) := by decide +kernel
theorem d_JA_rangeCheck_59 : decode b_JA_rangeCheck 59 = .ok (.iload_n 2, 1) := by decide +kernel
theorem d_JA_rangeCheck_60 : decode b_JA_rangeCheck 60 = .ok (.iload_n 0, 1) := by decide +kernel
theorem d_JA_rangeCheck_61 : decode b_JA_rangeCheck 61 = .ok (.if_icmp .le 12, 3) := by decide +kernel
theorem d_JA_rangeCheck_73 : decode b_JA_rangeCheck 73 = .ok (.return_, 1) := by decide +kernel
theorem d_F_set_0 : decode b_F_set 0 = .ok (.aload_n 0, 1) := by decide +kernel
theorem d_F_set_1 : decode b_F_set 1 = .ok (.lconst 0, 1) := by decide +kernel
theorem d_F_set_2 : decode b_F_set 2 = .ok (.invokestatic 33, 3) := by decide +kernel
theorem d_F_set_5 : decode b_F_set 5 = .ok (.aload_n 0, 1) := by decide +kernel
theorem d_F_set_6 : decode b_F_set 6 = .ok (.iconst 0, 1) := by decide +kernel
theorem d_F_set_7 : decode b_F_set 7 = .ok (.lload_n 1, 1) := by decide +kernel
theorem d_F_set_8 : decode b_F_set 8 = .ok (.lastore, 1) := by decide +kernel
theorem d_F_set_9 : decode b_F_set 9 = .ok (.return_, 1) := by decide +kernel
theorem d_F_copy_0 : decode b_F_copy 0 = .ok (.aload_n 1, 1) := by decide +kernel
theorem d_F_copy_1 : decode b_F_copy 1 = .ok (.iconst 0, 1) := by decide +kernel
theorem d_F_copy_2 : decode b_F_copy 2 = .ok (.aload_n 0, 1) := by decide +kernel
theorem d_F_copy_3 : decode b_F_copy 3 = .ok (.iconst 0, 1) := by decide +kernel
theorem d_F_copy_4 : decode b_F_copy 4 = .ok (.bipush 10, 2) := by decide +kernel
theorem d_F_copy_6 : decode b_F_copy 6 = .ok (.invokestatic 39, 3) := by decide +kernel
theorem d_F_copy_9 : decode b_F_copy 9 = .ok (.return_, 1) := by decide +kernel
theorem d_F_add_0 : decode b_F_add 0 = .ok (.iconst 0, 1) := by decide +kernel
theorem d_F_add_1 : decode b_F_add 1 = .ok (.istore_n 3, 1) := by decide +kernel
theorem d_F_add_2 : decode b_F_add 2 = .ok (.iload_n 3, 1) := by decide +kernel
theorem d_F_add_3 : decode b_F_add 3 = .ok (.bipush 10, 2) := by decide +kernel
theorem d_F_add_5 : decode b_F_add 5 = .ok (.if_icmp .ge 19, 3) := by decide +kernel
theorem d_F_add_8 : decode b_F_add 8 = .ok (.aload_n 0, 1) := by decide +kernel
theorem d_F_add_9 : decode b_F_add 9 = .ok (.iload_n 3, 1) := by decide +kernel
theorem d_F_add_10 : decode b_F_add 10 = .ok (.aload_n 1, 1) := by decide +kernel
theorem d_F_add_11 : decode b_F_add 11 = .ok (.iload_n 3, 1) := by decide +kernel
theorem d_F_add_12 : decode b_F_add 12 = .ok (.laload, 1) := by decide +kernel
theorem d_F_add_13 : decode b_F_add 13 = .ok (.aload_n 2, 1) := by decide +kernel
theorem d_F_add_14 : decode b_F_add 14 = .ok (.iload_n 3, 1) := by decide +kernel
theorem d_F_add_15 : decode b_F_add 15 = .ok (.laload, 1) := by decide +kernel
theorem d_F_add_16 : decode b_F_add 16 = .ok (.ladd, 1) := by decide +kernel
theorem d_F_add_17 : decode b_F_add 17 = .ok (.lastore, 1) := by decide +kernel
theorem d_F_add_18 : decode b_F_add 18 = .ok (.iinc 3 1, 3) := by decide +kernel
theorem d_F_add_21 : decode b_F_add 21 = .ok (.goto (-19), 3) := by decide +kernel
theorem d_F_add_24 : decode b_F_add 24 = .ok (.return_, 1) := by decide +kernel
theorem d_F_subtract_0 : decode b_F_subtract 0 = .ok (.iconst 0, 1) := by decide +kernel
theorem d_F_subtract_1 : decode b_F_subtract 1 = .ok (.istore_n 3, 1) := by decide +kernel
theorem d_F_subtract_2 : decode b_F_subtract 2 = .ok (.iload_n 3, 1) := by decide +kernel
theorem d_F_subtract_3 : decode b_F_subtract 3 = .ok (.bipush 10, 2) := by decide +kernel
theorem d_F_subtract_5 : decode b_F_subtract 5 = .ok (.if_icmp .ge 19, 3) := by decide +kernel
theorem d_F_subtract_8 : decode b_F_subtract 8 = .ok (.aload_n 0, 1) := by decide +kernel
theorem d_F_subtract_9 : decode b_F_subtract 9 = .ok (.iload_n 3, 1) := by decide +kernel
theorem d_F_subtract_10 : decode b_F_subtract 10 = .ok (.aload_n 1, 1) := by decide +kernel
theorem d_F_subtract_11 : decode b_F_subtract 11 = .ok (.iload_n 3, 1) := by decide +kernel
theorem d_F_subtract_12 : decode b_F_subtract 12 = .ok (.laload, 1) := by decide +kernel
theorem d_F_subtract_13 : decode b_F_subtract 13 = .ok (.aload_n 2, 1) := by decide +kernel
theorem d_F_subtract_14 : decode b_F_subtract 14 = .ok (.iload_n 3, 1) := by decide +kernel
theorem d_F_subtract_15 : decode b_F_subtract 15 = .ok (.laload, 1) := by decide +kernel
theorem d_F_subtract_16 : decode b_F_subtract 16 = .ok (.lsub, 1) := by decide +kernel
theorem d_F_subtract_17 : decode b_F_subtract 17 = .ok (.lastore, 1) := by decide +kernel
theorem d_F_subtract_18 : decode b_F_subtract 18 = .ok (.iinc 3 1, 3) := by decide +kernel
theorem d_F_subtract_21 : decode b_F_subtract 21 = .ok (.goto (-19), 3) := by decide +kernel
theorem d_F_subtract_24 : decode b_F_subtract 24 = .ok (.return_, 1) := by decide +kernel
theorem d_F_negate_0 : decode b_F_negate 0 = .ok (.iconst 0, 1) := by decide +kernel
theorem d_F_negate_1 : decode b_F_negate 1 = .ok (.istore_n 2, 1) := by decide +kernel
theorem d_F_negate_2 : decode b_F_negate 2 = .ok (.iload_n 2, 1) := by decide +kernel
theorem d_F_negate_3 : decode b_F_negate 3 = .ok (.bipush 10, 2) := by decide +kernel
theorem d_F_negate_5 : decode b_F_negate 5 = .ok (.if_icmp .ge 16, 3) := by decide +kernel
theorem d_F_negate_8 : decode b_F_negate 8 = .ok (.aload_n 0, 1) := by decide +kernel
theorem d_F_negate_9 : decode b_F_negate 9 = .ok (.iload_n 2, 1) := by decide +kernel
theorem d_F_negate_10 : decode b_F_negate 10 = .ok (.aload_n 1, 1) := by decide +kernel
theorem d_F_negate_11 : decode b_F_negate 11 = .ok (.iload_n 2, 1) := by decide +kernel
theorem d_F_negate_12 : decode b_F_negate 12 = .ok (.laload, 1) := by decide +kernel
theorem d_F_negate_13 : decode b_F_negate 13 = .ok (.lneg, 1) := by decide +kernel
theorem d_F_negate_14 : decode b_F_negate 14 = .ok (.lastore, 1) := by decide +kernel
theorem d_F_negate_15 : decode b_F_negate 15 = .ok (.iinc 2 1, 3) := by decide +kernel
theorem d_F_negate_18 : decode b_F_negate 18 = .ok (.goto (-16), 3) := by decide +kernel
theorem d_F_negate_21 : decode b_F_negate 21 = .ok (.return_, 1) := by decide +kernel
theorem d_F_scale_0 : decode b_F_scale 0 = .ok (.iconst 0, 1) := by decide +kernel
theorem d_F_scale_1 : decode b_F_scale 1 = .ok (.istore 4, 2) := by decide +kernel
theorem d_F_scale_3 : decode b_F_scale 3 = .ok (.iload 4, 2) := by decide +kernel
theorem d_F_scale_5 : decode b_F_scale 5 = .ok (.bipush 10, 2) := by decide +kernel
theorem d_F_scale_7 : decode b_F_scale 7 = .ok (.if_icmp .ge 19, 3) := by decide +kernel
theorem d_F_scale_10 : decode b_F_scale 10 = .ok (.aload_n 0, 1) := by decide +kernel
theorem d_F_scale_11 : decode b_F_scale 11 = .ok (.iload 4, 2) := by decide +kernel
theorem d_F_scale_13 : decode b_F_scale 13 = .ok (.aload_n 1, 1) := by decide +kernel
theorem d_F_scale_14 : decode b_F_scale 14 = .ok (.iload 4, 2) := by decide +kernel
theorem d_F_scale_16 : decode b_F_scale 16 = .ok (.laload, 1) := by decide +kernel
theorem d_F_scale_17 : decode b_F_scale 17 = .ok (.lload_n 2, 1) := by decide +kernel
theorem d_F_scale_18 : decode b_F_scale 18 = .ok (.lmul, 1) := by decide +kernel
theorem d_F_scale_19 : decode b_F_scale 19 = .ok (.lastore, 1) := by decide +kernel
theorem d_F_scale_20 : decode b_F_scale 20 = .ok (.iinc 4 1, 3) := by decide +kernel
theorem d_F_scale_23 : decode b_F_scale 23 = .ok (.goto (-20), 3) := by decide +kernel
theorem d_F_scale_26 : decode b_F_scale 26 = .ok (.aload_n 0, 1) := by decide +kernel
theorem d_F_scale_27 : decode b_F_scale 27 = .ok (.invokestatic 45, 3) := by decide +kernel
theorem d_F_scale_30 : decode b_F_scale 30 = .ok (.return_, 1) := by decide +kernel
theorem d_F_carry_0 : decode b_F_carry 0 = .ok (.lconst 0, 1) := by decide +kernel
theorem d_F_carry_1 : decode b_F_carry 1 = .ok (.lstore_n 1, 1) := by decide +kernel
theorem d_F_carry_2 : decode b_F_carry 2 = .ok (.iconst 0, 1) := by decide +kernel
theorem d_F_carry_3 : decode b_F_carry 3 = .ok (.istore_n 3, 1) := by decide +kernel
theorem d_F_carry_4 : decode b_F_carry 4 = .ok (.iload_n 3, 1) := by decide +kernel
theorem d_F_carry_5 : decode b_F_carry 5 = .ok (.bipush 10, 2) := by decide +kernel
theorem d_F_carry_7 : decode b_F_carry 7 = .ok (.if_icmp .ge 67, 3) := by decide +kernel
theorem d_F_carry_10 : decode b_F_carry 10 = .ok (.aload_n 0, 1) := by decide +kernel
theorem d_F_carry_11 : decode b_F_carry 11 = .ok (.iload_n 3, 1) := by decide +kernel
theorem d_F_carry_12 : decode b_F_carry 12 = .ok (.laload, 1) := by decide +kernel
theorem d_F_carry_13 : decode b_F_carry 13 = .ok (.lload_n 1, 1) := by decide +kernel
theorem d_F_carry_14 : decode b_F_carry 14 = .ok (.ladd, 1) := by decide +kernel
theorem d_F_carry_15 : decode b_F_carry 15 = .ok (.lstore 4, 2) := by decide +kernel
theorem d_F_carry_17 : decode b_F_carry 17 = .ok (.lload 4, 2) := by decide +kernel
theorem d_F_carry_19 : decode b_F_carry 19 = .ok (.ldc2_w 53, 3) := by decide +kernel
theorem d_F_carry_22 : decode b_F_carry 22 = .ok (.ladd, 1) := by decide +kernel
theorem d_F_carry_23 : decode b_F_carry 23 = .ok (.bipush 26, 2) := by decide +kernel
theorem d_F_carry_25 : decode b_F_carry 25 = .ok (.lshr, 1) := by decide +kernel
theorem d_F_carry_26 : decode b_F_carry 26 = .ok (.lstore_n 1, 1) := by decide +kernel
theorem d_F_carry_27 : decode b_F_carry 27 = .ok (.aload_n 0, 1) := by decide +kernel
theorem d_F_carry_28 : decode b_F_carry 28 = .ok (.iload_n 3, 1) := by decide +kernel
theorem d_F_carry_29 : decode b_F_carry 29 = .ok (.lload 4, 2) := by decide +kernel
theorem d_F_carry_31 : decode b_F_carry 31 = .ok (.lload_n 1, 1) := by decide +kernel
theorem d_F_carry_32 : decode b_F_carry 32 = .ok (.bipush 26, 2) := by decide +kernel
theorem d_F_carry_34 : decode b_F_carry 34 = .ok (.lshl, 1) := by decide +kernel
theorem d_F_carry_35 : decode b_F_carry 35 = .ok (.lsub, 1) := by decide +kernel
theorem d_F_carry_36 : decode b_F_carry 36 = .ok (.lastore, 1) := by decide +kernel
theorem d_F_carry_37 : decode b_F_carry 37 = .ok (.aload_n 0, 1) := by decide +kernel
theorem d_F_carry_38 : decode b_F_carry 38 = .ok (.iload_n 3, 1) := by decide +kernel
theorem d_F_carry_39 : decode b_F_carry 39 = .ok (.iconst 1, 1) := by decide +kernel
theorem d_F_carry_40 : decode b_F_carry 40 = .ok (.iadd, 1) := by decide +kernel
theorem d_F_carry_41 : decode b_F_carry 41 = .ok (.laload, 1) := by decide +kernel
theorem d_F_carry_42 : decode b_F_carry 42 = .ok (.lload_n 1, 1) := by decide +kernel
theorem d_F_carry_43 : decode b_F_carry 43 = .ok (.ladd, 1) := by decide +kernel
theorem d_F_carry_44 : decode b_F_carry 44 = .ok (.lstore 6, 2) := by decide +kernel
theorem d_F_carry_46 : decode b_F_carry 46 = .ok (.lload 6, 2) := by decide +kernel
theorem d_F_carry_48 : decode b_F_carry 48 = .ok (.ldc2_w 55, 3) := by decide +kernel
theorem d_F_carry_51 : decode b_F_carry 51 = .ok (.ladd, 1) := by decide +kernel
theorem d_F_carry_52 : decode b_F_carry 52 = .ok (.bipush 25, 2) := by decide +kernel
theorem d_F_carry_54 : decode b_F_carry 54 = .ok (.lshr, 1) := by decide +kernel
theorem d_F_carry_55 : decode b_F_carry 55 = .ok (.lstore_n 1, 1) := by decide +kernel
theorem d_F_carry_56 : decode b_F_carry 56 = .ok (.aload_n 0, 1) := by decide +kernel
theorem d_F_carry_57 : decode b_F_carry 57 = .ok (.iload_n 3, 1) := by decide +kernel
theorem d_F_carry_58 : decode b_F_carry 58 = .ok (.iconst 1, 1) := by decide +kernel
theorem d_F_carry_59 : decode b_F_carry 59 = .ok (.iadd, 1) := by decide +kernel
theorem d_F_carry_60 : decode b_F_carry 60 = .ok (.lload 6, 2) := by decide +kernel
theorem d_F_carry_62 : decode b_F_carry 62 = .ok (.lload_n 1, 1) := by decide +kernel
theorem d_F_carry_63 : decode b_F_carry 63 = .ok (.bipush 25, 2) := by decide +kernel
theorem d_F_carry_65 : decode b_F_carry 65 = .ok (.lshl, 1) := by decide +kernel
theorem d_F_carry_66 : decode b_F_carry 66 = .ok (.lsub, 1) := by decide +kernel
theorem d_F_carry_67 : decode b_F_carry 67 = .ok (.lastore, 1) := by decide +kernel
theorem d_F_carry_68 : decode b_F_carry 68 = .ok (.iinc 3 2, 3) := by decide +kernel
theorem d_F_carry_71 : decode b_F_carry 71 = .ok (.goto (-67), 3) := by decide +kernel
theorem d_F_carry_74 : decode b_F_carry 74 = .ok (.aload_n 0, 1) := by decide +kernel
theorem d_F_carry_75 : decode b_F_carry 75 = .ok (.iconst 0, 1) := by decide +kernel
theorem d_F_carry_76 : decode b_F_carry 76 = .ok (.laload, 1) := by decide +kernel
theorem d_F_carry_77 : decode b_F_carry 77 = .ok (.ldc2_w 51, 3) := by decide +kernel
theorem d_F_carry_80 : decode b_F_carry 80 = .ok (.lload_n 1, 1) := by decide +kernel
theorem d_F_carry_81 : decode b_F_carry 81 = .ok (.lmul, 1) := by decide +kernel
theorem d_F_carry_82 : decode b_F_carry 82 = .ok (.ladd, 1) := by decide +kernel
theorem d_F_carry_83 : decode b_F_carry 83 = .ok (.lstore_n 3, 1) := by decide +kernel
theorem d_F_carry_84 : decode b_F_carry 84 = .ok (.lload_n 3, 1) := by decide +kernel
theorem d_F_carry_85 : decode b_F_carry 85 = .ok (.ldc2_w 53, 3) := by decide +kernel
theorem d_F_carry_88 : decode b_F_carry 88 = .ok (.ladd, 1) := by decide +kernel
theorem d_F_carry_89 : decode b_F_carry 89 = .ok (.bipush 26, 2) := by decide +kernel
theorem d_F_carry_91 : decode b_F_carry 91 = .ok (.lshr, 1) := by decide +kernel
theorem d_F_carry_92 : decode b_F_carry 92 = .ok (.lstore_n 1, 1) := by decide +kernel
theorem d_F_carry_93 : decode b_F_carry 93 = .ok (.aload_n 0, 1) := by decide +kernel
theorem d_F_carry_94 : decode b_F_carry 94 = .ok (.iconst 0, 1) := by decide +kernel
theorem d_F_carry_95 : decode b_F_carry 95 = .ok (.lload_n 3, 1) := by decide +kernel
theorem d_F_carry_96 : decode b_F_carry 96 = .ok (.lload_n 1, 1) := by decide +kernel
theorem d_F_carry_97 : decode b_F_carry 97 = .ok (.bipush 26, 2) := by decide +kernel
theorem d_F_carry_99 : decode b_F_carry 99 = .ok (.lshl, 1) := by decide +kernel
theorem d_F_carry_100 : decode b_F_carry 100 = .ok (.lsub, 1) := by decide +kernel
theorem d_F_carry_101 : decode b_F_carry 101 = .ok (.lastore, 1) := by decide +kernel
theorem d_F_carry_102 : decode b_F_carry 102 = .ok (.aload_n 0, 1) := by decide +kernel
theorem d_F_carry_103 : decode b_F_carry 103 = .ok (.iconst 1, 1) := by decide +kernel
theorem d_F_carry_104 : decode b_F_carry 104 = .ok (.dup2, 1) := by decide +kernel
theorem d_F_carry_105 : decode b_F_carry 105 = .ok (.laload, 1) := by decide +kernel
theorem d_F_carry_106 : decode b_F_carry 106 = .ok (.lload_n 1, 1) := by decide +kernel
theorem d_F_carry_107 : decode b_F_carry 107 = .ok (.ladd, 1) := by decide +kernel
theorem d_F_carry_108 : decode b_F_carry 108 = .ok (.lastore, 1) := by decide +kernel
theorem d_F_carry_109 : decode b_F_carry 109 = .ok (.return_, 1) := by decide +kernel
theorem d_F_widthOf_0 : decode b_F_widthOf 0 = .ok (.bipush 26, 2) := by decide +kernel
theorem d_F_widthOf_2 : decode b_F_widthOf 2 = .ok (.iload_n 0, 1) := by decide +kernel
theorem d_F_widthOf_3 : decode b_F_widthOf 3 = .ok (.iconst 1, 1) := by decide +kernel
theorem d_F_widthOf_4 : decode b_F_widthOf 4 = .ok (.iand, 1) := by decide +kernel
theorem d_F_widthOf_5 : decode b_F_widthOf 5 = .ok (.isub, 1) := by decide +kernel
theorem d_F_widthOf_6 : decode b_F_widthOf 6 = .ok (.ireturn, 1) := by decide +kernel
theorem d_F_read_0 : decode b_F_read 0 = .ok (.iconst 0, 1) := by decide +kernel
theorem d_F_read_1 : decode b_F_read 1 = .ok (.istore_n 2, 1) := by decide +kernel
theorem d_F_read_2 : decode b_F_read 2 = .ok (.iload_n 2, 1) := by decide +kernel
theorem d_F_read_3 : decode b_F_read 3 = .ok (.bipush 10, 2) := by decide +kernel
theorem d_F_read_5 : decode b_F_read 5 = .ok (.if_icmp .ge 86, 3) := by decide +kernel
theorem d_F_read_8 : decode b_F_read 8 = .ok (.getstatic 57, 3) := by decide +kernel
theorem d_F_read_11 : decode b_F_read 11 = .ok (.iload_n 2, 1) := by decide +kernel
theorem d_F_read_12 : decode b_F_read 12 = .ok (.iaload, 1) := by decide +kernel
theorem d_F_read_13 : decode b_F_read 13 = .ok (.iconst 3, 1) := by decide +kernel
theorem d_F_read_14 : decode b_F_read 14 = .ok (.ishr, 1) := by decide +kernel
theorem d_F_read_15 : decode b_F_read 15 = .ok (.istore_n 3, 1) := by decide +kernel
theorem d_F_read_16 : decode b_F_read 16 = .ok (.iload_n 3, 1) := by decide +kernel
theorem d_F_read_17 : decode b_F_read 17 = .ok (.iconst 4, 1) := by decide +kernel
theorem d_F_read_18 : decode b_F_read 18 = .ok (.iadd, 1) := by decide +kernel
theorem d_F_read_19 : decode b_F_read 19 = .ok (.bipush 31, 2) := by decide +kernel
theorem d_F_read_21 : decode b_F_read 21 = .ok (.invokestatic 61, 3) := by decide +kernel
theorem d_F_read_24 : decode b_F_read 24 = .ok (.istore 4, 2) := by decide +kernel
theorem d_F_read_26 : decode b_F_read 26 = .ok (.lconst 0, 1) := by decide +kernel
theorem d_F_read_27 : decode b_F_read 27 = .ok (.lstore 5, 2) := by decide +kernel
theorem d_F_read_29 : decode b_F_read 29 = .ok (.iload 4, 2) := by decide +kernel
theorem d_F_read_31 : decode b_F_read 31 = .ok (.istore 7, 2) := by decide +kernel
theorem d_F_read_33 : decode b_F_read 33 = .ok (.iload 7, 2) := by decide +kernel
theorem d_F_read_35 : decode b_F_read 35 = .ok (.iload_n 3, 1) := by decide +kernel
theorem d_F_read_36 : decode b_F_read 36 = .ok (.if_icmp .lt 26, 3) := by decide +kernel
theorem d_F_read_39 : decode b_F_read 39 = .ok (.lload 5, 2) := by decide +kernel
theorem d_F_read_41 : decode b_F_read 41 = .ok (.bipush 8, 2) := by decide +kernel
theorem d_F_read_43 : decode b_F_read 43 = .ok (.lshl, 1) := by decide +kernel
theorem d_F_read_44 : decode b_F_read 44 = .ok (.aload_n 1, 1) := by decide +kernel
theorem d_F_read_45 : decode b_F_read 45 = .ok (.iload 7, 2) := by decide +kernel
theorem d_F_read_47 : decode b_F_read 47 = .ok (.baload, 1) := by decide +kernel
theorem d_F_read_48 : decode b_F_read 48 = .ok (.sipush 255, 3) := by decide +kernel
theorem d_F_read_51 : decode b_F_read 51 = .ok (.iand, 1) := by decide +kernel
theorem d_F_read_52 : decode b_F_read 52 = .ok (.i2l, 1) := by decide +kernel
theorem d_F_read_53 : decode b_F_read 53 = .ok (.lor, 1) := by decide +kernel
theorem d_F_read_54 : decode b_F_read 54 = .ok (.lstore 5, 2) := by decide +kernel
theorem d_F_read_56 : decode b_F_read 56 = .ok (.iinc 7 (-1), 3) := by decide +kernel
theorem d_F_read_59 : decode b_F_read 59 = .ok (.goto (-26), 3) := by decide +kernel
theorem d_F_read_62 : decode b_F_read 62 = .ok (.aload_n 0, 1) := by decide +kernel
theorem d_F_read_63 : decode b_F_read 63 = .ok (.iload_n 2, 1) := by decide +kernel
theorem d_F_read_64 : decode b_F_read 64 = .ok (.lload 5, 2) := by decide +kernel
theorem d_F_read_66 : decode b_F_read 66 = .ok (.getstatic 57, 3) := by decide +kernel
theorem d_F_read_69 : decode b_F_read 69 = .ok (.iload_n 2, 1) := by decide +kernel
theorem d_F_read_70 : decode b_F_read 70 = .ok (.iaload, 1) := by decide +kernel
theorem d_F_read_71 : decode b_F_read 71 = .ok (.bipush 7, 2) := by decide +kernel
theorem d_F_read_73 : decode b_F_read 73 = .ok (.iand, 1) := by decide +kernel
theorem d_F_read_74 : decode b_F_read 74 = .ok (.lshr, 1) := by decide +kernel
theorem d_F_read_75 : decode b_F_read 75 = .ok (.lconst 1, 1) := by decide +kernel
theorem d_F_read_76 : decode b_F_read 76 = .ok (.iload_n 2, 1) := by decide +kernel
theorem d_F_read_77 : decode b_F_read 77 = .ok (.invokestatic 67, 3) := by decide +kernel
theorem d_F_read_80 : decode b_F_read 80 = .ok (.lshl, 1) := by decide +kernel
theorem d_F_read_81 : decode b_F_read 81 = .ok (.lconst 1, 1) := by decide +kernel
theorem d_F_read_82 : decode b_F_read 82 = .ok (.lsub, 1) := by decide +kernel
theorem d_F_read_83 : decode b_F_read 83 = .ok (.land, 1) := by decide +kernel
theorem d_F_read_84 : decode b_F_read 84 = .ok (.lastore, 1) := by decide +kernel
theorem d_F_read_85 : decode b_F_read 85 = .ok (.iinc 2 1, 3) := by decide +kernel
theorem d_F_read_88 : decode b_F_read 88 = .ok (.goto (-86), 3) := by decide +kernel
theorem d_F_read_91 : decode b_F_read 91 = .ok (.return_, 1) := by decide +kernel
theorem d_F_write_0 : decode b_F_write 0 = .ok (.aload_n 0, 1) := by decide +kernel
theorem d_F_write_1 : decode b_F_write 1 = .ok (.aload_n 2, 1) := by decide +kernel
theorem d_F_write_2 : decode b_F_write 2 = .ok (.invokevirtual 71, 3) := by decide +kernel
theorem d_F_write_5 : decode b_F_write 5 = .ok (.lconst 0, 1) := by decide +kernel
theorem d_F_write_6 : decode b_F_write 6 = .ok (.lstore_n 3, 1) := by decide +kernel
theorem d_F_write_7 : decode b_F_write 7 = .ok (.iconst 0, 1) := by decide +kernel
theorem d_F_write_8 : decode b_F_write 8 = .ok (.istore 5, 2) := by decide +kernel
theorem d_F_write_10 : decode b_F_write 10 = .ok (.iconst 0, 1) := by decide +kernel
theorem d_F_write_11 : decode b_F_write 11 = .ok (.istore 6, 2) := by decide +kernel
theorem d_F_write_13 : decode b_F_write 13 = .ok (.iconst 0, 1) := by decide +kernel
theorem d_F_write_14 : decode b_F_write 14 = .ok (.istore 7, 2) := by decide +kernel
theorem d_F_write_16 : decode b_F_write 16 = .ok (.iload 7, 2) := by decide +kernel
theorem d_F_write_18 : decode b_F_write 18 = .ok (.bipush 10, 2) := by decide +kernel
theorem d_F_write_20 : decode b_F_write 20 = .ok (.if_icmp .ge 60, 3) := by decide +kernel
theorem d_F_write_23 : decode b_F_write 23 = .ok (.lload_n 3, 1) := by decide +kernel
theorem d_F_write_24 : decode b_F_write 24 = .ok (.aload_n 0, 1) := by decide +kernel
theorem d_F_write_25 : decode b_F_write 25 = .ok (.getfield 30, 3) := by decide +kernel
theorem d_F_write_28 : decode b_F_write 28 = .ok (.iload 7, 2) := by decide +kernel
theorem d_F_write_30 : decode b_F_write 30 = .ok (.laload, 1) := by decide +kernel
theorem d_F_write_31 : decode b_F_write 31 = .ok (.iload 5, 2) := by decide +kernel
theorem d_F_write_33 : decode b_F_write 33 = .ok (.lshl, 1) := by decide +kernel
theorem d_F_write_34 : decode b_F_write 34 = .ok (.lor, 1) := by decide +kernel
theorem d_F_write_35 : decode b_F_write 35 = .ok (.lstore_n 3, 1) := by decide +kernel
theorem d_F_write_36 : decode b_F_write 36 = .ok (.iload 5, 2) := by decide +kernel
theorem d_F_write_38 : decode b_F_write 38 = .ok (.iload 7, 2) := by decide +kernel
theorem d_F_write_40 : decode b_F_write 40 = .ok (.invokestatic 67, 3) := by decide +kernel
theorem d_F_write_43 : decode b_F_write 43 = .ok (.iadd, 1) := by decide +kernel
theorem d_F_write_44 : decode b_F_write 44 = .ok (.istore 5, 2) := by decide +kernel
theorem d_F_write_46 : decode b_F_write 46 = .ok (.iload 5, 2) := by decide +kernel
theorem d_F_write_48 : decode b_F_write 48 = .ok (.bipush 8, 2) := by decide +kernel
theorem d_F_write_50 : decode b_F_write 50 = .ok (.if_icmp .lt 24, 3) := by decide +kernel
theorem d_F_write_53 : decode b_F_write 53 = .ok (.aload_n 1, 1) := by decide +kernel
theorem d_F_write_54 : decode b_F_write 54 = .ok (.iload 6, 2) := by decide +kernel
theorem d_F_write_56 : decode b_F_write 56 = .ok (.lload_n 3, 1) := by decide +kernel
theorem d_F_write_57 : decode b_F_write 57 = .ok (.l2i, 1) := by decide +kernel
theorem d_F_write_58 : decode b_F_write 58 = .ok (.i2b, 1) := by decide +kernel
theorem d_F_write_59 : decode b_F_write 59 = .ok (.bastore, 1) := by decide +kernel
theorem d_F_write_60 : decode b_F_write 60 = .ok (.iinc 6 1, 3) := by decide +kernel
theorem d_F_write_63 : decode b_F_write 63 = .ok (.lload_n 3, 1) := by decide +kernel
theorem d_F_write_64 : decode b_F_write 64 = .ok (.bipush 8, 2) := by decide +kernel
theorem d_F_write_66 : decode b_F_write 66 = .ok (.lshr, 1) := by decide +kernel
theorem d_F_write_67 : decode b_F_write 67 = .ok (.lstore_n 3, 1) := by decide +kernel
theorem d_F_write_68 : decode b_F_write 68 = .ok (.iinc 5 (-8), 3) := by decide +kernel
theorem d_F_write_71 : decode b_F_write 71 = .ok (.goto (-25), 3) := by decide +kernel
theorem d_F_write_74 : decode b_F_write 74 = .ok (.iinc 7 1, 3) := by decide +kernel
theorem d_F_write_77 : decode b_F_write 77 = .ok (.goto (-61), 3) := by decide +kernel
theorem d_F_write_80 : decode b_F_write 80 = .ok (.aload_n 1, 1) := by decide +kernel
theorem d_F_write_81 : decode b_F_write 81 = .ok (.iload 6, 2) := by decide +kernel
theorem d_F_write_83 : decode b_F_write 83 = .ok (.lload_n 3, 1) := by decide +kernel
theorem d_F_write_84 : decode b_F_write 84 = .ok (.l2i, 1) := by decide +kernel
theorem d_F_write_85 : decode b_F_write 85 = .ok (.i2b, 1) := by decide +kernel
theorem d_F_write_86 : decode b_F_write 86 = .ok (.bastore, 1) := by decide +kernel
theorem d_F_write_87 : decode b_F_write 87 = .ok (.return_, 1) := by decide +kernel
theorem d_F_settle_0 : decode b_F_settle 0 = .ok (.aload_n 1, 1) := by decide +kernel
theorem d_F_settle_1 : decode b_F_settle 1 = .ok (.iconst 0, 1) := by decide +kernel
theorem d_F_settle_2 : decode b_F_settle 2 = .ok (.aload_n 0, 1) := by decide +kernel
theorem d_F_settle_3 : decode b_F_settle 3 = .ok (.getfield 30, 3) := by decide +kernel
theorem d_F_settle_6 : decode b_F_settle 6 = .ok (.iconst 0, 1) := by decide +kernel
theorem d_F_settle_7 : decode b_F_settle 7 = .ok (.bipush 10, 2) := by decide +kernel
theorem d_F_settle_9 : decode b_F_settle 9 = .ok (.invokestatic 39, 3) := by decide +kernel
theorem d_F_settle_12 : decode b_F_settle 12 = .ok (.aload_n 0, 1) := by decide +kernel
theorem d_F_settle_13 : decode b_F_settle 13 = .ok (.getfield 30, 3) := by decide +kernel
theorem d_F_settle_16 : decode b_F_settle 16 = .ok (.invokestatic 45, 3) := by decide +kernel
theorem d_F_settle_19 : decode b_F_settle 19 = .ok (.lconst 0, 1) := by decide +kernel
theorem d_F_settle_20 : decode b_F_settle 20 = .ok (.lstore_n 2, 1) := by decide +kernel
theorem d_F_settle_21 : decode b_F_settle 21 = .ok (.iconst 0, 1) := by decide +kernel
theorem d_F_settle_22 : decode b_F_settle 22 = .ok (.istore 4, 2) := by decide +kernel
theorem d_F_settle_24 : decode b_F_settle 24 = .ok (.iload 4, 2) := by decide +kernel
theorem d_F_settle_26 : decode b_F_settle 26 = .ok (.bipush 10, 2) := by decide +kernel
theorem d_F_settle_28 : decode b_F_settle 28 = .ok (.if_icmp .ge 25, 3) := by decide +kernel
theorem d_F_settle_31 : decode b_F_settle 31 = .ok (.aload_n 0, 1) := by decide +kernel
theorem d_F_settle_32 : decode b_F_settle 32 = .ok (.getfield 30, 3) := by decide +kernel
theorem d_F_settle_35 : decode b_F_settle 35 = .ok (.iload 4, 2) := by decide +kernel
theorem d_F_settle_37 : decode b_F_settle 37 = .ok (.laload, 1) := by decide +kernel
theorem d_F_settle_38 : decode b_F_settle 38 = .ok (.lload_n 2, 1) := by decide +kernel
theorem d_F_settle_39 : decode b_F_settle 39 = .ok (.ladd, 1) := by decide +kernel
theorem d_F_settle_40 : decode b_F_settle 40 = .ok (.iload 4, 2) := by decide +kernel
theorem d_F_settle_42 : decode b_F_settle 42 = .ok (.invokestatic 67, 3) := by decide +kernel
theorem d_F_settle_45 : decode b_F_settle 45 = .ok (.lshr, 1) := by decide +kernel
theorem d_F_settle_46 : decode b_F_settle 46 = .ok (.lstore_n 2, 1) := by decide +kernel
theorem d_F_settle_47 : decode b_F_settle 47 = .ok (.iinc 4 1, 3) := by decide +kernel
theorem d_F_settle_50 : decode b_F_settle 50 = .ok (.goto (-26), 3) := by decide +kernel
theorem d_F_settle_53 : decode b_F_settle 53 = .ok (.ldc2_w 51, 3) := by decide +kernel
theorem d_F_settle_56 : decode b_F_settle 56 = .ok (.lload_n 2, 1) := by decide +kernel
theorem d_F_settle_57 : decode b_F_settle 57 = .ok (.lmul, 1) := by decide +kernel
theorem d_F_settle_58 : decode b_F_settle 58 = .ok (.lstore 4, 2) := by decide +kernel
theorem d_F_settle_60 : decode b_F_settle 60 = .ok (.iconst 0, 1) := by decide +kernel
theorem d_F_settle_61 : decode b_F_settle 61 = .ok (.istore 6, 2) := by decide +kernel
theorem d_F_settle_63 : decode b_F_settle 63 = .ok (.iload 6, 2) := by decide +kernel
theorem d_F_settle_65 : decode b_F_settle 65 = .ok (.bipush 10, 2) := by decide +kernel
theorem d_F_settle_67 : decode b_F_settle 67 = .ok (.if_icmp .ge 49, 3) := by decide +kernel
theorem d_F_settle_70 : decode b_F_settle 70 = .ok (.aload_n 0, 1) := by decide +kernel
theorem d_F_settle_71 : decode b_F_settle 71 = .ok (.getfield 30, 3) := by decide +kernel
theorem d_F_settle_74 : decode b_F_settle 74 = .ok (.iload 6, 2) := by decide +kernel
theorem d_F_settle_76 : decode b_F_settle 76 = .ok (.laload, 1) := by decide +kernel
theorem d_F_settle_77 : decode b_F_settle 77 = .ok (.lload 4, 2) := by decide +kernel
theorem d_F_settle_79 : decode b_F_settle 79 = .ok (.ladd, 1) := by decide +kernel
theorem d_F_settle_80 : decode b_F_settle 80 = .ok (.lstore 7, 2) := by decide +kernel
theorem d_F_settle_82 : decode b_F_settle 82 = .ok (.lload 7, 2) := by decide +kernel
theorem d_F_settle_84 : decode b_F_settle 84 = .ok (.iload 6, 2) := by decide +kernel
theorem d_F_settle_86 : decode b_F_settle 86 = .ok (.invokestatic 67, 3) := by decide +kernel
theorem d_F_settle_89 : decode b_F_settle 89 = .ok (.lshr, 1) := by decide +kernel
theorem d_F_settle_90 : decode b_F_settle 90 = .ok (.lstore 4, 2) := by decide +kernel
theorem d_F_settle_92 : decode b_F_settle 92 = .ok (.aload_n 0, 1) := by decide +kernel
theorem d_F_settle_93 : decode b_F_settle 93 = .ok (.getfield 30, 3) := by decide +kernel
theorem d_F_settle_96 : decode b_F_settle 96 = .ok (.iload 6, 2) := by decide +kernel
theorem d_F_settle_98 : decode b_F_settle 98 = .ok (.lload 7, 2) := by decide +kernel
theorem d_F_settle_100 : decode b_F_settle 100 = .ok (.lload 4, 2) := by decide +kernel
theorem d_F_settle_102 : decode b_F_settle 102 = .ok (.iload 6, 2) := by decide +kernel
theorem d_F_settle_104 : decode b_F_settle 104 = .ok (.invokestatic 67, 3) := by decide +kernel
theorem d_F_settle_107 : decode b_F_settle 107 = .ok (.lshl, 1) := by decide +kernel
theorem d_F_settle_108 : decode b_F_settle 108 = .ok (.lsub, 1) := by decide +kernel
theorem d_F_settle_109 : decode b_F_settle 109 = .ok (.lastore, 1) := by decide +kernel
theorem d_F_settle_110 : decode b_F_settle 110 = .ok (.iinc 6 1, 3) := by decide +kernel
theorem d_F_settle_113 : decode b_F_settle 113 = .ok (.goto (-50), 3) := by decide +kernel
theorem d_F_settle_116 : decode b_F_settle 116 = .ok (.return_, 1) := by decide +kernel
theorem d_F_invert_0 : decode b_F_invert 0 = .ok (.aload_n 0, 1) := by decide +kernel
theorem d_F_invert_1 : decode b_F_invert 1 = .ok (.aload_n 2, 1) := by decide +kernel
theorem d_F_invert_2 : decode b_F_invert 2 = .ok (.invokevirtual 74, 3) := by decide +kernel
theorem d_F_invert_5 : decode b_F_invert 5 = .ok (.aload_n 0, 1) := by decide +kernel
theorem d_F_invert_6 : decode b_F_invert 6 = .ok (.aload_n 1, 1) := by decide +kernel
theorem d_F_invert_7 : decode b_F_invert 7 = .ok (.aload_n 0, 1) := by decide +kernel
theorem d_F_invert_8 : decode b_F_invert 8 = .ok (.getfield 21, 3) := by decide +kernel
theorem d_F_invert_11 : decode b_F_invert 11 = .ok (.iconst 5, 1) := by decide +kernel
theorem d_F_invert_12 : decode b_F_invert 12 = .ok (.aload_n 0, 1) := by decide +kernel
theorem d_F_invert_13 : decode b_F_invert 13 = .ok (.getfield 11, 3) := by decide +kernel
theorem d_F_invert_16 : decode b_F_invert 16 = .ok (.invokevirtual 77, 3) := by decide +kernel
theorem d_F_invert_19 : decode b_F_invert 19 = .ok (.return_, 1) := by decide +kernel
theorem d_F_raiseForRoot_0 : decode b_F_raiseForRoot 0 = .ok (.aload_n 0, 1) := by decide +kernel
theorem d_F_raiseForRoot_1 : decode b_F_raiseForRoot 1 = .ok (.aload_n 2, 1) := by decide +kernel
theorem d_F_raiseForRoot_2 : decode b_F_raiseForRoot 2 = .ok (.invokevirtual 74, 3) := by decide +kernel
theorem d_F_raiseForRoot_5 : decode b_F_raiseForRoot 5 = .ok (.aload_n 0, 1) := by decide +kernel
theorem d_F_raiseForRoot_6 : decode b_F_raiseForRoot 6 = .ok (.aload_n 1, 1) := by decide +kernel
theorem d_F_raiseForRoot_7 : decode b_F_raiseForRoot 7 = .ok (.aload_n 0, 1) := by decide +kernel
theorem d_F_raiseForRoot_8 : decode b_F_raiseForRoot 8 = .ok (.getfield 21, 3) := by decide +kernel
theorem d_F_raiseForRoot_11 : decode b_F_raiseForRoot 11 = .ok (.iconst 2, 1) := by decide +kernel
theorem d_F_raiseForRoot_12 : decode b_F_raiseForRoot 12 = .ok (.aload_n 2, 1) := by decide +kernel
theorem d_F_raiseForRoot_13 : decode b_F_raiseForRoot 13 = .ok (.invokevirtual 77, 3) := by decide +kernel
theorem d_F_raiseForRoot_16 : decode b_F_raiseForRoot 16 = .ok (.return_, 1) := by decide +kernel
theorem d_F_raiseToOnes_0 : decode b_F_raiseToOnes 0 = .ok (.aload_n 0, 1) := by decide +kernel
theorem d_F_raiseToOnes_1 : decode b_F_raiseToOnes 1 = .ok (.getfield 24, 3) := by decide +kernel
theorem d_F_raiseToOnes_4 : decode b_F_raiseToOnes 4 = .ok (.aload_n 1, 1) := by decide +kernel
theorem d_F_raiseToOnes_5 : decode b_F_raiseToOnes 5 = .ok (.invokestatic 81, 3) := by decide +kernel
theorem d_F_raiseToOnes_8 : decode b_F_raiseToOnes 8 = .ok (.aload_n 0, 1) := by decide +kernel
theorem d_F_raiseToOnes_9 : decode b_F_raiseToOnes 9 = .ok (.aload_n 0, 1) := by decide +kernel
theorem d_F_raiseToOnes_10 : decode b_F_raiseToOnes 10 = .ok (.getfield 27, 3) := by decide +kernel
theorem d_F_raiseToOnes_13 : decode b_F_raiseToOnes 13 = .ok (.aload_n 0, 1) := by decide +kernel
theorem d_F_raiseToOnes_14 : decode b_F_raiseToOnes 14 = .ok (.getfield 24, 3) := by decide +kernel
theorem d_F_raiseToOnes_17 : decode b_F_raiseToOnes 17 = .ok (.iconst 2, 1) := by decide +kernel
theorem d_F_raiseToOnes_18 : decode b_F_raiseToOnes 18 = .ok (.aload_n 1, 1) := by decide +kernel
theorem d_F_raiseToOnes_19 : decode b_F_raiseToOnes 19 = .ok (.invokevirtual 77, 3) := by decide +kernel
theorem d_F_raiseToOnes_22 : decode b_F_raiseToOnes 22 = .ok (.aload_n 0, 1) := by decide +kernel
theorem d_F_raiseToOnes_23 : decode b_F_raiseToOnes 23 = .ok (.getfield 11, 3) := by decide +kernel
theorem d_F_raiseToOnes_26 : decode b_F_raiseToOnes 26 = .ok (.aload_n 0, 1) := by decide +kernel
theorem d_F_raiseToOnes_27 : decode b_F_raiseToOnes 27 = .ok (.getfield 27, 3) := by decide +kernel
theorem d_F_raiseToOnes_30 : decode b_F_raiseToOnes 30 = .ok (.aload_n 0, 1) := by decide +kernel
theorem d_F_raiseToOnes_31 : decode b_F_raiseToOnes 31 = .ok (.getfield 24, 3) := by decide +kernel
theorem d_F_raiseToOnes_34 : decode b_F_raiseToOnes 34 = .ok (.invokestatic 85, 3) := by decide +kernel
theorem d_F_raiseToOnes_37 : decode b_F_raiseToOnes 37 = .ok (.aload_n 0, 1) := by decide +kernel
theorem d_F_raiseToOnes_38 : decode b_F_raiseToOnes 38 = .ok (.aload_n 0, 1) := by decide +kernel
theorem d_F_raiseToOnes_39 : decode b_F_raiseToOnes 39 = .ok (.getfield 24, 3) := by decide +kernel
theorem d_F_raiseToOnes_42 : decode b_F_raiseToOnes 42 = .ok (.aload_n 0, 1) := by decide +kernel
theorem d_F_raiseToOnes_43 : decode b_F_raiseToOnes 43 = .ok (.getfield 11, 3) := by decide +kernel
theorem d_F_raiseToOnes_46 : decode b_F_raiseToOnes 46 = .ok (.iconst 1, 1) := by decide +kernel
theorem d_F_raiseToOnes_47 : decode b_F_raiseToOnes 47 = .ok (.aload_n 0, 1) := by decide +kernel
theorem d_F_raiseToOnes_48 : decode b_F_raiseToOnes 48 = .ok (.getfield 27, 3) := by decide +kernel
theorem d_F_raiseToOnes_51 : decode b_F_raiseToOnes 51 = .ok (.invokevirtual 77, 3) := by decide +kernel
theorem d_F_raiseToOnes_54 : decode b_F_raiseToOnes 54 = .ok (.aload_n 0, 1) := by decide +kernel
theorem d_F_raiseToOnes_55 : decode b_F_raiseToOnes 55 = .ok (.aload_n 0, 1) := by decide +kernel
theorem d_F_raiseToOnes_56 : decode b_F_raiseToOnes 56 = .ok (.getfield 15, 3) := by decide +kernel
theorem d_F_raiseToOnes_59 : decode b_F_raiseToOnes 59 = .ok (.aload_n 0, 1) := by decide +kernel
theorem d_F_raiseToOnes_60 : decode b_F_raiseToOnes 60 = .ok (.getfield 24, 3) := by decide +kernel
theorem d_F_raiseToOnes_63 : decode b_F_raiseToOnes 63 = .ok (.iconst 5, 1) := by decide +kernel
theorem d_F_raiseToOnes_64 : decode b_F_raiseToOnes 64 = .ok (.aload_n 0, 1) := by decide +kernel
theorem d_F_raiseToOnes_65 : decode b_F_raiseToOnes 65 = .ok (.getfield 24, 3) := by decide +kernel
theorem d_F_raiseToOnes_68 : decode b_F_raiseToOnes 68 = .ok (.invokevirtual 77, 3) := by decide +kernel
theorem d_F_raiseToOnes_71 : decode b_F_raiseToOnes 71 = .ok (.aload_n 0, 1) := by decide +kernel
theorem d_F_raiseToOnes_72 : decode b_F_raiseToOnes 72 = .ok (.aload_n 0, 1) := by decide +kernel
theorem d_F_raiseToOnes_73 : decode b_F_raiseToOnes 73 = .ok (.getfield 24, 3) := by decide +kernel
theorem d_F_raiseToOnes_76 : decode b_F_raiseToOnes 76 = .ok (.aload_n 0, 1) := by decide +kernel
theorem d_F_raiseToOnes_77 : decode b_F_raiseToOnes 77 = .ok (.getfield 15, 3) := by decide +kernel
theorem d_F_raiseToOnes_80 : decode b_F_raiseToOnes 80 = .ok (.bipush 10, 2) := by decide +kernel
theorem d_F_raiseToOnes_82 : decode b_F_raiseToOnes 82 = .ok (.aload_n 0, 1) := by decide +kernel
theorem d_F_raiseToOnes_83 : decode b_F_raiseToOnes 83 = .ok (.getfield 15, 3) := by decide +kernel
theorem d_F_raiseToOnes_86 : decode b_F_raiseToOnes 86 = .ok (.invokevirtual 77, 3) := by decide +kernel
theorem d_F_raiseToOnes_89 : decode b_F_raiseToOnes 89 = .ok (.aload_n 0, 1) := by decide +kernel
theorem d_F_raiseToOnes_90 : decode b_F_raiseToOnes 90 = .ok (.aload_n 0, 1) := by decide +kernel
theorem d_F_raiseToOnes_91 : decode b_F_raiseToOnes 91 = .ok (.getfield 27, 3) := by decide +kernel
theorem d_F_raiseToOnes_94 : decode b_F_raiseToOnes 94 = .ok (.aload_n 0, 1) := by decide +kernel
theorem d_F_raiseToOnes_95 : decode b_F_raiseToOnes 95 = .ok (.getfield 24, 3) := by decide +kernel
theorem d_F_raiseToOnes_98 : decode b_F_raiseToOnes 98 = .ok (.bipush 20, 2) := by decide +kernel
theorem d_F_raiseToOnes_100 : decode b_F_raiseToOnes 100 = .ok (.aload_n 0, 1) := by decide +kernel
theorem d_F_raiseToOnes_101 : decode b_F_raiseToOnes 101 = .ok (.getfield 24, 3) := by decide +kernel
theorem d_F_raiseToOnes_104 : decode b_F_raiseToOnes 104 = .ok (.invokevirtual 77, 3) := by decide +kernel
theorem d_F_raiseToOnes_107 : decode b_F_raiseToOnes 107 = .ok (.aload_n 0, 1) := by decide +kernel
theorem d_F_raiseToOnes_108 : decode b_F_raiseToOnes 108 = .ok (.aload_n 0, 1) := by decide +kernel
theorem d_F_raiseToOnes_109 : decode b_F_raiseToOnes 109 = .ok (.getfield 18, 3) := by decide +kernel
theorem d_F_raiseToOnes_112 : decode b_F_raiseToOnes 112 = .ok (.aload_n 0, 1) := by decide +kernel
theorem d_F_raiseToOnes_113 : decode b_F_raiseToOnes 113 = .ok (.getfield 27, 3) := by decide +kernel
theorem d_F_raiseToOnes_116 : decode b_F_raiseToOnes 116 = .ok (.bipush 10, 2) := by decide +kernel
theorem d_F_raiseToOnes_118 : decode b_F_raiseToOnes 118 = .ok (.aload_n 0, 1) := by decide +kernel
theorem d_F_raiseToOnes_119 : decode b_F_raiseToOnes 119 = .ok (.getfield 15, 3) := by decide +kernel
theorem d_F_raiseToOnes_122 : decode b_F_raiseToOnes 122 = .ok (.invokevirtual 77, 3) := by decide +kernel
theorem d_F_raiseToOnes_125 : decode b_F_raiseToOnes 125 = .ok (.aload_n 0, 1) := by decide +kernel
theorem d_F_raiseToOnes_126 : decode b_F_raiseToOnes 126 = .ok (.aload_n 0, 1) := by decide +kernel
theorem d_F_raiseToOnes_127 : decode b_F_raiseToOnes 127 = .ok (.getfield 24, 3) := by decide +kernel
theorem d_F_raiseToOnes_130 : decode b_F_raiseToOnes 130 = .ok (.aload_n 0, 1) := by decide +kernel
theorem d_F_raiseToOnes_131 : decode b_F_raiseToOnes 131 = .ok (.getfield 18, 3) := by decide +kernel
theorem d_F_raiseToOnes_134 : decode b_F_raiseToOnes 134 = .ok (.bipush 50, 2) := by decide +kernel
theorem d_F_raiseToOnes_136 : decode b_F_raiseToOnes 136 = .ok (.aload_n 0, 1) := by decide +kernel
theorem d_F_raiseToOnes_137 : decode b_F_raiseToOnes 137 = .ok (.getfield 18, 3) := by decide +kernel
theorem d_F_raiseToOnes_140 : decode b_F_raiseToOnes 140 = .ok (.invokevirtual 77, 3) := by decide +kernel
theorem d_F_raiseToOnes_143 : decode b_F_raiseToOnes 143 = .ok (.aload_n 0, 1) := by decide +kernel
theorem d_F_raiseToOnes_144 : decode b_F_raiseToOnes 144 = .ok (.aload_n 0, 1) := by decide +kernel
theorem d_F_raiseToOnes_145 : decode b_F_raiseToOnes 145 = .ok (.getfield 27, 3) := by decide +kernel
theorem d_F_raiseToOnes_148 : decode b_F_raiseToOnes 148 = .ok (.aload_n 0, 1) := by decide +kernel
theorem d_F_raiseToOnes_149 : decode b_F_raiseToOnes 149 = .ok (.getfield 24, 3) := by decide +kernel
theorem d_F_raiseToOnes_152 : decode b_F_raiseToOnes 152 = .ok (.bipush 100, 2) := by decide +kernel
theorem d_F_raiseToOnes_154 : decode b_F_raiseToOnes 154 = .ok (.aload_n 0, 1) := by decide +kernel
theorem d_F_raiseToOnes_155 : decode b_F_raiseToOnes 155 = .ok (.getfield 24, 3) := by decide +kernel
theorem d_F_raiseToOnes_158 : decode b_F_raiseToOnes 158 = .ok (.invokevirtual 77, 3) := by decide +kernel
theorem d_F_raiseToOnes_161 : decode b_F_raiseToOnes 161 = .ok (.aload_n 0, 1) := by decide +kernel
theorem d_F_raiseToOnes_162 : decode b_F_raiseToOnes 162 = .ok (.aload_n 0, 1) := by decide +kernel
theorem d_F_raiseToOnes_163 : decode b_F_raiseToOnes 163 = .ok (.getfield 21, 3) := by decide +kernel
theorem d_F_raiseToOnes_166 : decode b_F_raiseToOnes 166 = .ok (.aload_n 0, 1) := by decide +kernel
theorem d_F_raiseToOnes_167 : decode b_F_raiseToOnes 167 = .ok (.getfield 27, 3) := by decide +kernel
theorem d_F_raiseToOnes_170 : decode b_F_raiseToOnes 170 = .ok (.bipush 50, 2) := by decide +kernel
theorem d_F_raiseToOnes_172 : decode b_F_raiseToOnes 172 = .ok (.aload_n 0, 1) := by decide +kernel
theorem d_F_raiseToOnes_173 : decode b_F_raiseToOnes 173 = .ok (.getfield 18, 3) := by decide +kernel
theorem d_F_raiseToOnes_176 : decode b_F_raiseToOnes 176 = .ok (.invokevirtual 77, 3) := by decide +kernel
theorem d_F_raiseToOnes_179 : decode b_F_raiseToOnes 179 = .ok (.return_, 1) := by decide +kernel
theorem d_F_stretch_0 : decode b_F_stretch 0 = .ok (.aload_n 0, 1) := by decide +kernel
theorem d_F_stretch_1 : decode b_F_stretch 1 = .ok (.getfield 30, 3) := by decide +kernel
theorem d_F_stretch_4 : decode b_F_stretch 4 = .ok (.aload_n 2, 1) := by decide +kernel
theorem d_F_stretch_5 : decode b_F_stretch 5 = .ok (.invokestatic 89, 3) := by decide +kernel
theorem d_F_stretch_8 : decode b_F_stretch 8 = .ok (.iconst 0, 1) := by decide +kernel
theorem d_F_stretch_9 : decode b_F_stretch 9 = .ok (.istore 5, 2) := by decide +kernel
theorem d_F_stretch_11 : decode b_F_stretch 11 = .ok (.iload 5, 2) := by decide +kernel
theorem d_F_stretch_13 : decode b_F_stretch 13 = .ok (.iload_n 3, 1) := by decide +kernel
theorem d_F_stretch_14 : decode b_F_stretch 14 = .ok (.if_icmp .ge 20, 3) := by decide +kernel
theorem d_F_stretch_17 : decode b_F_stretch 17 = .ok (.aload_n 0, 1) := by decide +kernel
theorem d_F_stretch_18 : decode b_F_stretch 18 = .ok (.getfield 30, 3) := by decide +kernel
theorem d_F_stretch_21 : decode b_F_stretch 21 = .ok (.aload_n 0, 1) := by decide +kernel
theorem d_F_stretch_22 : decode b_F_stretch 22 = .ok (.getfield 30, 3) := by decide +kernel
theorem d_F_stretch_25 : decode b_F_stretch 25 = .ok (.invokestatic 81, 3) := by decide +kernel
theorem d_F_stretch_28 : decode b_F_stretch 28 = .ok (.iinc 5 1, 3) := by decide +kernel
theorem d_F_stretch_31 : decode b_F_stretch 31 = .ok (.goto (-20), 3) := by decide +kernel
theorem d_F_stretch_34 : decode b_F_stretch 34 = .ok (.aload_n 1, 1) := by decide +kernel
theorem d_F_stretch_35 : decode b_F_stretch 35 = .ok (.aload_n 0, 1) := by decide +kernel
theorem d_F_stretch_36 : decode b_F_stretch 36 = .ok (.getfield 30, 3) := by decide +kernel
theorem d_F_stretch_39 : decode b_F_stretch 39 = .ok (.aload 4, 2) := by decide +kernel
theorem d_F_stretch_41 : decode b_F_stretch 41 = .ok (.invokestatic 85, 3) := by decide +kernel
theorem d_F_stretch_44 : decode b_F_stretch 44 = .ok (.return_, 1) := by decide +kernel
