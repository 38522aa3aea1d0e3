theorem d_M_copy_0 : decode b_M_copy 0 = .ok (.iconst 0, 1) := by decide +kernel
theorem d_M_copy_1 : decode b_M_copy 1 = .ok (.istore_n 2, 1) := by decide +kernel
theorem d_M_copy_2 : decode b_M_copy 2 = .ok (.iload_n 2, 1) := by decide +kernel
theorem d_M_copy_3 : decode b_M_copy 3 = .ok (.bipush 16, 2) := by decide +kernel
theorem d_M_copy_5 : decode b_M_copy 5 = .ok (.if_icmp .ge 15, 3) := by decide +kernel
theorem d_M_copy_8 : decode b_M_copy 8 = .ok (.aload_n 0, 1) := by decide +kernel
theorem d_M_copy_9 : decode b_M_copy 9 = .ok (.iload_n 2, 1) := by decide +kernel
theorem d_M_copy_10 : decode b_M_copy 10 = .ok (.aload_n 1, 1) := by decide +kernel
theorem d_M_copy_11 : decode b_M_copy 11 = .ok (.iload_n 2, 1) := by decide +kernel
theorem d_M_copy_12 : decode b_M_copy 12 = .ok (.laload, 1) := by decide +kernel
theorem d_M_copy_13 : decode b_M_copy 13 = .ok (.lastore, 1) := by decide +kernel
theorem d_M_copy_14 : decode b_M_copy 14 = .ok (.iinc 2 1, 3) := by decide +kernel
theorem d_M_copy_17 : decode b_M_copy 17 = .ok (.goto (-15), 3) := by decide +kernel
theorem d_M_copy_20 : decode b_M_copy 20 = .ok (.return_, 1) := by decide +kernel
theorem d_M_set_0 : decode b_M_set 0 = .ok (.iconst 0, 1) := by decide +kernel
theorem d_M_set_1 : decode b_M_set 1 = .ok (.istore_n 2, 1) := by decide +kernel
theorem d_M_set_2 : decode b_M_set 2 = .ok (.iload_n 2, 1) := by decide +kernel
theorem d_M_set_3 : decode b_M_set 3 = .ok (.bipush 16, 2) := by decide +kernel
theorem d_M_set_5 : decode b_M_set 5 = .ok (.if_icmp .ge 22, 3) := by decide +kernel
theorem d_M_set_8 : decode b_M_set 8 = .ok (.aload_n 0, 1) := by decide +kernel
theorem d_M_set_9 : decode b_M_set 9 = .ok (.iload_n 2, 1) := by decide +kernel
theorem d_M_set_10 : decode b_M_set 10 = .ok (.iload_n 2, 1) := by decide +kernel
theorem d_M_set_11 : decode b_M_set 11 = .ok (.ifCond .ne 8, 3) := by decide +kernel
theorem d_M_set_14 : decode b_M_set 14 = .ok (.iload_n 1, 1) := by decide +kernel
theorem d_M_set_15 : decode b_M_set 15 = .ok (.i2l, 1) := by decide +kernel
theorem d_M_set_16 : decode b_M_set 16 = .ok (.goto 4, 3) := by decide +kernel
theorem d_M_set_19 : decode b_M_set 19 = .ok (.lconst 0, 1) := by decide +kernel
theorem d_M_set_20 : decode b_M_set 20 = .ok (.lastore, 1) := by decide +kernel
theorem d_M_set_21 : decode b_M_set 21 = .ok (.iinc 2 1, 3) := by decide +kernel
theorem d_M_set_24 : decode b_M_set 24 = .ok (.goto (-22), 3) := by decide +kernel
theorem d_M_set_27 : decode b_M_set 27 = .ok (.return_, 1) := by decide +kernel
theorem d_M_zero_0 : decode b_M_zero 0 = .ok (.iconst 0, 1) := by decide +kernel
theorem d_M_zero_1 : decode b_M_zero 1 = .ok (.istore_n 1, 1) := by decide +kernel
theorem d_M_zero_2 : decode b_M_zero 2 = .ok (.iload_n 1, 1) := by decide +kernel
theorem d_M_zero_3 : decode b_M_zero 3 = .ok (.bipush 16, 2) := by decide +kernel
theorem d_M_zero_5 : decode b_M_zero 5 = .ok (.if_icmp .ge 19, 3) := by decide +kernel
theorem d_M_zero_8 : decode b_M_zero 8 = .ok (.aload_n 0, 1) := by decide +kernel
theorem d_M_zero_9 : decode b_M_zero 9 = .ok (.iload_n 1, 1) := by decide +kernel
theorem d_M_zero_10 : decode b_M_zero 10 = .ok (.laload, 1) := by decide +kernel
theorem d_M_zero_11 : decode b_M_zero 11 = .ok (.lconst 0, 1) := by decide +kernel
theorem d_M_zero_12 : decode b_M_zero 12 = .ok (.lcmp, 1) := by decide +kernel
theorem d_M_zero_13 : decode b_M_zero 13 = .ok (.ifCond .eq 5, 3) := by decide +kernel
theorem d_M_zero_16 : decode b_M_zero 16 = .ok (.iconst 0, 1) := by decide +kernel
theorem d_M_zero_17 : decode b_M_zero 17 = .ok (.ireturn, 1) := by decide +kernel
theorem d_M_zero_18 : decode b_M_zero 18 = .ok (.iinc 1 1, 3) := by decide +kernel
theorem d_M_zero_21 : decode b_M_zero 21 = .ok (.goto (-19), 3) := by decide +kernel
theorem d_M_zero_24 : decode b_M_zero 24 = .ok (.iconst 1, 1) := by decide +kernel
theorem d_M_zero_25 : decode b_M_zero 25 = .ok (.ireturn, 1) := by decide +kernel
theorem d_M_below_0 : decode b_M_below 0 = .ok (.bipush 15, 2) := by decide +kernel
theorem d_M_below_2 : decode b_M_below 2 = .ok (.istore_n 2, 1) := by decide +kernel
theorem d_M_below_3 : decode b_M_below 3 = .ok (.iload_n 2, 1) := by decide +kernel
theorem d_M_below_4 : decode b_M_below 4 = .ok (.ifCond .lt 35, 3) := by decide +kernel
theorem d_M_below_7 : decode b_M_below 7 = .ok (.aload_n 0, 1) := by decide +kernel
theorem d_M_below_8 : decode b_M_below 8 = .ok (.iload_n 2, 1) := by decide +kernel
theorem d_M_below_9 : decode b_M_below 9 = .ok (.laload, 1) := by decide +kernel
theorem d_M_below_10 : decode b_M_below 10 = .ok (.aload_n 1, 1) := by decide +kernel
theorem d_M_below_11 : decode b_M_below 11 = .ok (.iload_n 2, 1) := by decide +kernel
theorem d_M_below_12 : decode b_M_below 12 = .ok (.laload, 1) := by decide +kernel
theorem d_M_below_13 : decode b_M_below 13 = .ok (.lcmp, 1) := by decide +kernel
theorem d_M_below_14 : decode b_M_below 14 = .ok (.ifCond .eq 19, 3) := by decide +kernel
theorem d_M_below_17 : decode b_M_below 17 = .ok (.aload_n 0, 1) := by decide +kernel
theorem d_M_below_18 : decode b_M_below 18 = .ok (.iload_n 2, 1) := by decide +kernel
theorem d_M_below_19 : decode b_M_below 19 = .ok (.laload, 1) := by decide +kernel
theorem d_M_below_20 : decode b_M_below 20 = .ok (.aload_n 1, 1) := by decide +kernel
theorem d_M_below_21 : decode b_M_below 21 = .ok (.iload_n 2, 1) := by decide +kernel
theorem d_M_below_22 : decode b_M_below 22 = .ok (.laload, 1) := by decide +kernel
theorem d_M_below_23 : decode b_M_below 23 = .ok (.lcmp, 1) := by decide +kernel
theorem d_M_below_24 : decode b_M_below 24 = .ok (.ifCond .ge 7, 3) := by decide +kernel
theorem d_M_below_27 : decode b_M_below 27 = .ok (.iconst 1, 1) := by decide +kernel
theorem d_M_below_28 : decode b_M_below 28 = .ok (.goto 4, 3) := by decide +kernel
theorem d_M_below_31 : decode b_M_below 31 = .ok (.iconst 0, 1) := by decide +kernel
theorem d_M_below_32 : decode b_M_below 32 = .ok (.ireturn, 1) := by decide +kernel
theorem d_M_below_33 : decode b_M_below 33 = .ok (.iinc 2 (-1), 3) := by decide +kernel
theorem d_M_below_36 : decode b_M_below 36 = .ok (.goto (-33), 3) := by decide +kernel
theorem d_M_below_39 : decode b_M_below 39 = .ok (.iconst 0, 1) := by decide +kernel
theorem d_M_below_40 : decode b_M_below 40 = .ok (.ireturn, 1) := by decide +kernel
theorem d_M_alike_0 : decode b_M_alike 0 = .ok (.iconst 0, 1) := by decide +kernel
theorem d_M_alike_1 : decode b_M_alike 1 = .ok (.istore_n 2, 1) := by decide +kernel
theorem d_M_alike_2 : decode b_M_alike 2 = .ok (.iload_n 2, 1) := by decide +kernel
theorem d_M_alike_3 : decode b_M_alike 3 = .ok (.bipush 16, 2) := by decide +kernel
theorem d_M_alike_5 : decode b_M_alike 5 = .ok (.if_icmp .ge 21, 3) := by decide +kernel
theorem d_M_alike_8 : decode b_M_alike 8 = .ok (.aload_n 0, 1) := by decide +kernel
theorem d_M_alike_9 : decode b_M_alike 9 = .ok (.iload_n 2, 1) := by decide +kernel
theorem d_M_alike_10 : decode b_M_alike 10 = .ok (.laload, 1) := by decide +kernel
theorem d_M_alike_11 : decode b_M_alike 11 = .ok (.aload_n 1, 1) := by decide +kernel
theorem d_M_alike_12 : decode b_M_alike 12 = .ok (.iload_n 2, 1) := by decide +kernel
theorem d_M_alike_13 : decode b_M_alike 13 = .ok (.laload, 1) := by decide +kernel
theorem d_M_alike_14 : decode b_M_alike 14 = .ok (.lcmp, 1) := by decide +kernel
theorem d_M_alike_15 : decode b_M_alike 15 = .ok (.ifCond .eq 5, 3) := by decide +kernel
theorem d_M_alike_18 : decode b_M_alike 18 = .ok (.iconst 0, 1) := by decide +kernel
theorem d_M_alike_19 : decode b_M_alike 19 = .ok (.ireturn, 1) := by decide +kernel
theorem d_M_alike_20 : decode b_M_alike 20 = .ok (.iinc 2 1, 3) := by decide +kernel
theorem d_M_alike_23 : decode b_M_alike 23 = .ok (.goto (-21), 3) := by decide +kernel
theorem d_M_alike_26 : decode b_M_alike 26 = .ok (.iconst 1, 1) := by decide +kernel
theorem d_M_alike_27 : decode b_M_alike 27 = .ok (.ireturn, 1) := by decide +kernel
theorem d_M_less_0 : decode b_M_less 0 = .ok (.lconst 0, 1) := by decide +kernel
theorem d_M_less_1 : decode b_M_less 1 = .ok (.lstore_n 3, 1) := by decide +kernel
theorem d_M_less_2 : decode b_M_less 2 = .ok (.iconst 0, 1) := by decide +kernel
theorem d_M_less_3 : decode b_M_less 3 = .ok (.istore 5, 2) := by decide +kernel
theorem d_M_less_5 : decode b_M_less 5 = .ok (.iload 5, 2) := by decide +kernel
theorem d_M_less_7 : decode b_M_less 7 = .ok (.bipush 16, 2) := by decide +kernel
theorem d_M_less_9 : decode b_M_less 9 = .ok (.if_icmp .ge 45, 3) := by decide +kernel
theorem d_M_less_12 : decode b_M_less 12 = .ok (.aload_n 1, 1) := by decide +kernel
theorem d_M_less_13 : decode b_M_less 13 = .ok (.iload 5, 2) := by decide +kernel
theorem d_M_less_15 : decode b_M_less 15 = .ok (.laload, 1) := by decide +kernel
theorem d_M_less_16 : decode b_M_less 16 = .ok (.aload_n 2, 1) := by decide +kernel
theorem d_M_less_17 : decode b_M_less 17 = .ok (.iload 5, 2) := by decide +kernel
theorem d_M_less_19 : decode b_M_less 19 = .ok (.laload, 1) := by decide +kernel
theorem d_M_less_20 : decode b_M_less 20 = .ok (.lsub, 1) := by decide +kernel
theorem d_M_less_21 : decode b_M_less 21 = .ok (.lload_n 3, 1) := by decide +kernel
theorem d_M_less_22 : decode b_M_less 22 = .ok (.lsub, 1) := by decide +kernel
theorem d_M_less_23 : decode b_M_less 23 = .ok (.lstore 6, 2) := by decide +kernel
theorem d_M_less_25 : decode b_M_less 25 = .ok (.lload 6, 2) := by decide +kernel
theorem d_M_less_27 : decode b_M_less 27 = .ok (.lconst 0, 1) := by decide +kernel
theorem d_M_less_28 : decode b_M_less 28 = .ok (.lcmp, 1) := by decide +kernel
theorem d_M_less_29 : decode b_M_less 29 = .ok (.ifCond .ge 7, 3) := by decide +kernel
theorem d_M_less_32 : decode b_M_less 32 = .ok (.lconst 1, 1) := by decide +kernel
theorem d_M_less_33 : decode b_M_less 33 = .ok (.goto 4, 3) := by decide +kernel
theorem d_M_less_36 : decode b_M_less 36 = .ok (.lconst 0, 1) := by decide +kernel
theorem d_M_less_37 : decode b_M_less 37 = .ok (.lstore_n 3, 1) := by decide +kernel
theorem d_M_less_38 : decode b_M_less 38 = .ok (.aload_n 0, 1) := by decide +kernel
theorem d_M_less_39 : decode b_M_less 39 = .ok (.iload 5, 2) := by decide +kernel
theorem d_M_less_41 : decode b_M_less 41 = .ok (.lload 6, 2) := by decide +kernel
theorem d_M_less_43 : decode b_M_less 43 = .ok (.ldc2_w 169, 3) := by decide +kernel
theorem d_M_less_46 : decode b_M_less 46 = .ok (.land, 1) := by decide +kernel
theorem d_M_less_47 : decode b_M_less 47 = .ok (.lastore, 1) := by decide +kernel
theorem d_M_less_48 : decode b_M_less 48 = .ok (.iinc 5 1, 3) := by decide +kernel
theorem d_M_less_51 : decode b_M_less 51 = .ok (.goto (-46), 3) := by decide +kernel
theorem d_M_less_54 : decode b_M_less 54 = .ok (.return_, 1) := by decide +kernel
theorem d_M_plus_0 : decode b_M_plus 0 = .ok (.lconst 0, 1) := by decide +kernel
theorem d_M_plus_1 : decode b_M_plus 1 = .ok (.lstore 4, 2) := by decide +kernel
theorem d_M_plus_3 : decode b_M_plus 3 = .ok (.iconst 0, 1) := by decide +kernel
theorem d_M_plus_4 : decode b_M_plus 4 = .ok (.istore 6, 2) := by decide +kernel
theorem d_M_plus_6 : decode b_M_plus 6 = .ok (.iload 6, 2) := by decide +kernel
theorem d_M_plus_8 : decode b_M_plus 8 = .ok (.bipush 16, 2) := by decide +kernel
theorem d_M_plus_10 : decode b_M_plus 10 = .ok (.if_icmp .ge 40, 3) := by decide +kernel
theorem d_M_plus_13 : decode b_M_plus 13 = .ok (.lload 4, 2) := by decide +kernel
theorem d_M_plus_15 : decode b_M_plus 15 = .ok (.aload_n 1, 1) := by decide +kernel
theorem d_M_plus_16 : decode b_M_plus 16 = .ok (.iload 6, 2) := by decide +kernel
theorem d_M_plus_18 : decode b_M_plus 18 = .ok (.laload, 1) := by decide +kernel
theorem d_M_plus_19 : decode b_M_plus 19 = .ok (.aload_n 2, 1) := by decide +kernel
theorem d_M_plus_20 : decode b_M_plus 20 = .ok (.iload 6, 2) := by decide +kernel
theorem d_M_plus_22 : decode b_M_plus 22 = .ok (.laload, 1) := by decide +kernel
theorem d_M_plus_23 : decode b_M_plus 23 = .ok (.ladd, 1) := by decide +kernel
theorem d_M_plus_24 : decode b_M_plus 24 = .ok (.ladd, 1) := by decide +kernel
theorem d_M_plus_25 : decode b_M_plus 25 = .ok (.lstore 4, 2) := by decide +kernel
theorem d_M_plus_27 : decode b_M_plus 27 = .ok (.aload_n 0, 1) := by decide +kernel
theorem d_M_plus_28 : decode b_M_plus 28 = .ok (.iload 6, 2) := by decide +kernel
theorem d_M_plus_30 : decode b_M_plus 30 = .ok (.lload 4, 2) := by decide +kernel
theorem d_M_plus_32 : decode b_M_plus 32 = .ok (.ldc2_w 169, 3) := by decide +kernel
theorem d_M_plus_35 : decode b_M_plus 35 = .ok (.land, 1) := by decide +kernel
theorem d_M_plus_36 : decode b_M_plus 36 = .ok (.lastore, 1) := by decide +kernel
theorem d_M_plus_37 : decode b_M_plus 37 = .ok (.lload 4, 2) := by decide +kernel
theorem d_M_plus_39 : decode b_M_plus 39 = .ok (.bipush 16, 2) := by decide +kernel
theorem d_M_plus_41 : decode b_M_plus 41 = .ok (.lshr, 1) := by decide +kernel
theorem d_M_plus_42 : decode b_M_plus 42 = .ok (.lstore 4, 2) := by decide +kernel
theorem d_M_plus_44 : decode b_M_plus 44 = .ok (.iinc 6 1, 3) := by decide +kernel
theorem d_M_plus_47 : decode b_M_plus 47 = .ok (.goto (-41), 3) := by decide +kernel
theorem d_M_plus_50 : decode b_M_plus 50 = .ok (.lload 4, 2) := by decide +kernel
theorem d_M_plus_52 : decode b_M_plus 52 = .ok (.lconst 0, 1) := by decide +kernel
theorem d_M_plus_53 : decode b_M_plus 53 = .ok (.lcmp, 1) := by decide +kernel
theorem d_M_plus_54 : decode b_M_plus 54 = .ok (.ifCond .gt 11, 3) := by decide +kernel
theorem d_M_plus_57 : decode b_M_plus 57 = .ok (.aload_n 0, 1) := by decide +kernel
theorem d_M_plus_58 : decode b_M_plus 58 = .ok (.aload_n 3, 1) := by decide +kernel
theorem d_M_plus_59 : decode b_M_plus 59 = .ok (.invokestatic 215, 3) := by decide +kernel
theorem d_M_plus_62 : decode b_M_plus 62 = .ok (.ifCond .ne 9, 3) := by decide +kernel
theorem d_M_plus_65 : decode b_M_plus 65 = .ok (.aload_n 0, 1) := by decide +kernel
theorem d_M_plus_66 : decode b_M_plus 66 = .ok (.aload_n 0, 1) := by decide +kernel
theorem d_M_plus_67 : decode b_M_plus 67 = .ok (.aload_n 3, 1) := by decide +kernel
theorem d_M_plus_68 : decode b_M_plus 68 = .ok (.invokestatic 219, 3) := by decide +kernel
theorem d_M_plus_71 : decode b_M_plus 71 = .ok (.return_, 1) := by decide +kernel
theorem d_M_minus_0 : decode b_M_minus 0 = .ok (.lconst 0, 1) := by decide +kernel
theorem d_M_minus_1 : decode b_M_minus 1 = .ok (.lstore 4, 2) := by decide +kernel
theorem d_M_minus_3 : decode b_M_minus 3 = .ok (.iconst 0, 1) := by decide +kernel
theorem d_M_minus_4 : decode b_M_minus 4 = .ok (.istore 6, 2) := by decide +kernel
theorem d_M_minus_6 : decode b_M_minus 6 = .ok (.iload 6, 2) := by decide +kernel
theorem d_M_minus_8 : decode b_M_minus 8 = .ok (.bipush 16, 2) := by decide +kernel
theorem d_M_minus_10 : decode b_M_minus 10 = .ok (.if_icmp .ge 47, 3) := by decide +kernel
theorem d_M_minus_13 : decode b_M_minus 13 = .ok (.aload_n 1, 1) := by decide +kernel
theorem d_M_minus_14 : decode b_M_minus 14 = .ok (.iload 6, 2) := by decide +kernel
theorem d_M_minus_16 : decode b_M_minus 16 = .ok (.laload, 1) := by decide +kernel
theorem d_M_minus_17 : decode b_M_minus 17 = .ok (.aload_n 2, 1) := by decide +kernel
theorem d_M_minus_18 : decode b_M_minus 18 = .ok (.iload 6, 2) := by decide +kernel
theorem d_M_minus_20 : decode b_M_minus 20 = .ok (.laload, 1) := by decide +kernel
theorem d_M_minus_21 : decode b_M_minus 21 = .ok (.lsub, 1) := by decide +kernel
theorem d_M_minus_22 : decode b_M_minus 22 = .ok (.lload 4, 2) := by decide +kernel
theorem d_M_minus_24 : decode b_M_minus 24 = .ok (.lsub, 1) := by decide +kernel
theorem d_M_minus_25 : decode b_M_minus 25 = .ok (.lstore 7, 2) := by decide +kernel
theorem d_M_minus_27 : decode b_M_minus 27 = .ok (.lload 7, 2) := by decide +kernel
theorem d_M_minus_29 : decode b_M_minus 29 = .ok (.lconst 0, 1) := by decide +kernel
theorem d_M_minus_30 : decode b_M_minus 30 = .ok (.lcmp, 1) := by decide +kernel
theorem d_M_minus_31 : decode b_M_minus 31 = .ok (.ifCond .ge 7, 3) := by decide +kernel
theorem d_M_minus_34 : decode b_M_minus 34 = .ok (.lconst 1, 1) := by decide +kernel
theorem d_M_minus_35 : decode b_M_minus 35 = .ok (.goto 4, 3) := by decide +kernel
theorem d_M_minus_38 : decode b_M_minus 38 = .ok (.lconst 0, 1) := by decide +kernel
theorem d_M_minus_39 : decode b_M_minus 39 = .ok (.lstore 4, 2) := by decide +kernel
theorem d_M_minus_41 : decode b_M_minus 41 = .ok (.aload_n 0, 1) := by decide +kernel
theorem d_M_minus_42 : decode b_M_minus 42 = .ok (.iload 6, 2) := by decide +kernel
theorem d_M_minus_44 : decode b_M_minus 44 = .ok (.lload 7, 2) := by decide +kernel
theorem d_M_minus_46 : decode b_M_minus 46 = .ok (.ldc2_w 169, 3) := by decide +kernel
theorem d_M_minus_49 : decode b_M_minus 49 = .ok (.land, 1) := by decide +kernel
theorem d_M_minus_50 : decode b_M_minus 50 = .ok (.lastore, 1) := by decide +kernel
theorem d_M_minus_51 : decode b_M_minus 51 = .ok (.iinc 6 1, 3) := by decide +kernel
theorem d_M_minus_54 : decode b_M_minus 54 = .ok (.goto (-48), 3) := by decide +kernel
theorem d_M_minus_57 : decode b_M_minus 57 = .ok (.lload 4, 2) := by decide +kernel
theorem d_M_minus_59 : decode b_M_minus 59 = .ok (.lconst 0, 1) := by decide +kernel
theorem d_M_minus_60 : decode b_M_minus 60 = .ok (.lcmp, 1) := by decide +kernel
theorem d_M_minus_61 : decode b_M_minus 61 = .ok (.ifCond .ne 4, 3) := by decide +kernel
theorem d_M_minus_64 : decode b_M_minus 64 = .ok (.return_, 1) := by decide +kernel
theorem d_M_minus_65 : decode b_M_minus 65 = .ok (.lconst 0, 1) := by decide +kernel
theorem d_M_minus_66 : decode b_M_minus 66 = .ok (.lstore 6, 2) := by decide +kernel
theorem d_M_minus_68 : decode b_M_minus 68 = .ok (.iconst 0, 1) := by decide +kernel
theorem d_M_minus_69 : decode b_M_minus 69 = .ok (.istore 8, 2) := by decide +kernel
theorem d_M_minus_71 : decode b_M_minus 71 = .ok (.iload 8, 2) := by decide +kernel
theorem d_M_minus_73 : decode b_M_minus 73 = .ok (.bipush 16, 2) := by decide +kernel
theorem d_M_minus_75 : decode b_M_minus 75 = .ok (.if_icmp .ge 40, 3) := by decide +kernel
theorem d_M_minus_78 : decode b_M_minus 78 = .ok (.lload 6, 2) := by decide +kernel
theorem d_M_minus_80 : decode b_M_minus 80 = .ok (.aload_n 0, 1) := by decide +kernel
theorem d_M_minus_81 : decode b_M_minus 81 = .ok (.iload 8, 2) := by decide +kernel
theorem d_M_minus_83 : decode b_M_minus 83 = .ok (.laload, 1) := by decide +kernel
theorem d_M_minus_84 : decode b_M_minus 84 = .ok (.aload_n 3, 1) := by decide +kernel
theorem d_M_minus_85 : decode b_M_minus 85 = .ok (.iload 8, 2) := by decide +kernel
theorem d_M_minus_87 : decode b_M_minus 87 = .ok (.laload, 1) := by decide +kernel
theorem d_M_minus_88 : decode b_M_minus 88 = .ok (.ladd, 1) := by decide +kernel
theorem d_M_minus_89 : decode b_M_minus 89 = .ok (.ladd, 1) := by decide +kernel
theorem d_M_minus_90 : decode b_M_minus 90 = .ok (.lstore 6, 2) := by decide +kernel
theorem d_M_minus_92 : decode b_M_minus 92 = .ok (.aload_n 0, 1) := by decide +kernel
theorem d_M_minus_93 : decode b_M_minus 93 = .ok (.iload 8, 2) := by decide +kernel
theorem d_M_minus_95 : decode b_M_minus 95 = .ok (.lload 6, 2) := by decide +kernel
theorem d_M_minus_97 : decode b_M_minus 97 = .ok (.ldc2_w 169, 3) := by decide +kernel
theorem d_M_minus_100 : decode b_M_minus 100 = .ok (.land, 1) := by decide +kernel
theorem d_M_minus_101 : decode b_M_minus 101 = .ok (.lastore, 1) := by decide +kernel
theorem d_M_minus_102 : decode b_M_minus 102 = .ok (.lload 6, 2) := by decide +kernel
theorem d_M_minus_104 : decode b_M_minus 104 = .ok (.bipush 16, 2) := by decide +kernel
theorem d_M_minus_106 : decode b_M_minus 106 = .ok (.lshr, 1) := by decide +kernel
theorem d_M_minus_107 : decode b_M_minus 107 = .ok (.lstore 6, 2) := by decide +kernel
theorem d_M_minus_109 : decode b_M_minus 109 = .ok (.iinc 8 1, 3) := by decide +kernel
theorem d_M_minus_112 : decode b_M_minus 112 = .ok (.goto (-41), 3) := by decide +kernel
theorem d_M_minus_115 : decode b_M_minus 115 = .ok (.return_, 1) := by decide +kernel
theorem d_M_remainders_0 : decode b_M_remainders 0 = .ok (.aload_n 2, 1) := by decide +kernel
theorem d_M_remainders_1 : decode b_M_remainders 1 = .ok (.iconst 1, 1) := by decide +kernel
theorem d_M_remainders_2 : decode b_M_remainders 2 = .ok (.invokestatic 177, 3) := by decide +kernel
theorem d_M_remainders_5 : decode b_M_remainders 5 = .ok (.iconst 0, 1) := by decide +kernel
theorem d_M_remainders_6 : decode b_M_remainders 6 = .ok (.istore_n 3, 1) := by decide +kernel
theorem d_M_remainders_7 : decode b_M_remainders 7 = .ok (.iload_n 3, 1) := by decide +kernel
theorem d_M_remainders_8 : decode b_M_remainders 8 = .ok (.sipush 496, 3) := by decide +kernel
theorem d_M_remainders_11 : decode b_M_remainders 11 = .ok (.if_icmp .ge 62, 3) := by decide +kernel
theorem d_M_remainders_14 : decode b_M_remainders 14 = .ok (.aload_n 2, 1) := by decide +kernel
theorem d_M_remainders_15 : decode b_M_remainders 15 = .ok (.aload_n 2, 1) := by decide +kernel
theorem d_M_remainders_16 : decode b_M_remainders 16 = .ok (.aload_n 2, 1) := by decide +kernel
theorem d_M_remainders_17 : decode b_M_remainders 17 = .ok (.aload_n 1, 1) := by decide +kernel
theorem d_M_remainders_18 : decode b_M_remainders 18 = .ok (.invokestatic 222, 3) := by decide +kernel
theorem d_M_remainders_21 : decode b_M_remainders 21 = .ok (.iload_n 3, 1) := by decide +kernel
theorem d_M_remainders_22 : decode b_M_remainders 22 = .ok (.sipush 255, 3) := by decide +kernel
theorem d_M_remainders_25 : decode b_M_remainders 25 = .ok (.if_icmp .lt 42, 3) := by decide +kernel
theorem d_M_remainders_28 : decode b_M_remainders 28 = .ok (.iload_n 3, 1) := by decide +kernel
theorem d_M_remainders_29 : decode b_M_remainders 29 = .ok (.bipush 16, 2) := by decide +kernel
theorem d_M_remainders_31 : decode b_M_remainders 31 = .ok (.irem, 1) := by decide +kernel
theorem d_M_remainders_32 : decode b_M_remainders 32 = .ok (.bipush 15, 2) := by decide +kernel
theorem d_M_remainders_34 : decode b_M_remainders 34 = .ok (.if_icmp .ne 33, 3) := by decide +kernel
theorem d_M_remainders_37 : decode b_M_remainders 37 = .ok (.iconst 0, 1) := by decide +kernel
theorem d_M_remainders_38 : decode b_M_remainders 38 = .ok (.istore 4, 2) := by decide +kernel
theorem d_M_remainders_40 : decode b_M_remainders 40 = .ok (.iload 4, 2) := by decide +kernel
theorem d_M_remainders_42 : decode b_M_remainders 42 = .ok (.bipush 16, 2) := by decide +kernel
theorem d_M_remainders_44 : decode b_M_remainders 44 = .ok (.if_icmp .ge 23, 3) := by decide +kernel
theorem d_M_remainders_47 : decode b_M_remainders 47 = .ok (.aload_n 0, 1) := by decide +kernel
theorem d_M_remainders_48 : decode b_M_remainders 48 = .ok (.iload_n 3, 1) := by decide +kernel
theorem d_M_remainders_49 : decode b_M_remainders 49 = .ok (.sipush 255, 3) := by decide +kernel
theorem d_M_remainders_52 : decode b_M_remainders 52 = .ok (.isub, 1) := by decide +kernel
theorem d_M_remainders_53 : decode b_M_remainders 53 = .ok (.iload 4, 2) := by decide +kernel
theorem d_M_remainders_55 : decode b_M_remainders 55 = .ok (.iadd, 1) := by decide +kernel
theorem d_M_remainders_56 : decode b_M_remainders 56 = .ok (.aload_n 2, 1) := by decide +kernel
theorem d_M_remainders_57 : decode b_M_remainders 57 = .ok (.iload 4, 2) := by decide +kernel
theorem d_M_remainders_59 : decode b_M_remainders 59 = .ok (.laload, 1) := by decide +kernel
theorem d_M_remainders_60 : decode b_M_remainders 60 = .ok (.lastore, 1) := by decide +kernel
theorem d_M_remainders_61 : decode b_M_remainders 61 = .ok (.iinc 4 1, 3) := by decide +kernel
theorem d_M_remainders_64 : decode b_M_remainders 64 = .ok (.goto (-24), 3) := by decide +kernel
theorem d_M_remainders_67 : decode b_M_remainders 67 = .ok (.iinc 3 1, 3) := by decide +kernel
theorem d_M_remainders_70 : decode b_M_remainders 70 = .ok (.goto (-63), 3) := by decide +kernel
theorem d_M_remainders_73 : decode b_M_remainders 73 = .ok (.return_, 1) := by decide +kernel
theorem d_M_half_0 : decode b_M_half 0 = .ok (.aload_n 0, 1) := by decide +kernel
theorem d_M_half_1 : decode b_M_half 1 = .ok (.iconst 0, 1) := by decide +kernel
theorem d_M_half_2 : decode b_M_half 2 = .ok (.laload, 1) := by decide +kernel
theorem d_M_half_3 : decode b_M_half 3 = .ok (.lconst 1, 1) := by decide +kernel
theorem d_M_half_4 : decode b_M_half 4 = .ok (.land, 1) := by decide +kernel
theorem d_M_half_5 : decode b_M_half 5 = .ok (.lconst 1, 1) := by decide +kernel
theorem d_M_half_6 : decode b_M_half 6 = .ok (.lcmp, 1) := by decide +kernel
theorem d_M_half_7 : decode b_M_half 7 = .ok (.ifCond .ne 55, 3) := by decide +kernel
theorem d_M_half_10 : decode b_M_half 10 = .ok (.lconst 0, 1) := by decide +kernel
theorem d_M_half_11 : decode b_M_half 11 = .ok (.lstore_n 2, 1) := by decide +kernel
theorem d_M_half_12 : decode b_M_half 12 = .ok (.iconst 0, 1) := by decide +kernel
theorem d_M_half_13 : decode b_M_half 13 = .ok (.istore 4, 2) := by decide +kernel
theorem d_M_half_15 : decode b_M_half 15 = .ok (.iload 4, 2) := by decide +kernel
theorem d_M_half_17 : decode b_M_half 17 = .ok (.bipush 16, 2) := by decide +kernel
theorem d_M_half_19 : decode b_M_half 19 = .ok (.if_icmp .ge 35, 3) := by decide +kernel
theorem d_M_half_22 : decode b_M_half 22 = .ok (.lload_n 2, 1) := by decide +kernel
theorem d_M_half_23 : decode b_M_half 23 = .ok (.aload_n 0, 1) := by decide +kernel
theorem d_M_half_24 : decode b_M_half 24 = .ok (.iload 4, 2) := by decide +kernel
theorem d_M_half_26 : decode b_M_half 26 = .ok (.laload, 1) := by decide +kernel
theorem d_M_half_27 : decode b_M_half 27 = .ok (.aload_n 1, 1) := by decide +kernel
theorem d_M_half_28 : decode b_M_half 28 = .ok (.iload 4, 2) := by decide +kernel
theorem d_M_half_30 : decode b_M_half 30 = .ok (.laload, 1) := by decide +kernel
theorem d_M_half_31 : decode b_M_half 31 = .ok (.ladd, 1) := by decide +kernel
theorem d_M_half_32 : decode b_M_half 32 = .ok (.ladd, 1) := by decide +kernel
theorem d_M_half_33 : decode b_M_half 33 = .ok (.lstore_n 2, 1) := by decide +kernel
theorem d_M_half_34 : decode b_M_half 34 = .ok (.aload_n 0, 1) := by decide +kernel
theorem d_M_half_35 : decode b_M_half 35 = .ok (.iload 4, 2) := by decide +kernel
theorem d_M_half_37 : decode b_M_half 37 = .ok (.lload_n 2, 1) := by decide +kernel
theorem d_M_half_38 : decode b_M_half 38 = .ok (.ldc2_w 169, 3) := by decide +kernel
theorem d_M_half_41 : decode b_M_half 41 = .ok (.land, 1) := by decide +kernel
theorem d_M_half_42 : decode b_M_half 42 = .ok (.lastore, 1) := by decide +kernel
theorem d_M_half_43 : decode b_M_half 43 = .ok (.lload_n 2, 1) := by decide +kernel
theorem d_M_half_44 : decode b_M_half 44 = .ok (.bipush 16, 2) := by decide +kernel
theorem d_M_half_46 : decode b_M_half 46 = .ok (.lshr, 1) := by decide +kernel
theorem d_M_half_47 : decode b_M_half 47 = .ok (.lstore_n 2, 1) := by decide +kernel
theorem d_M_half_48 : decode b_M_half 48 = .ok (.iinc 4 1, 3) := by decide +kernel
theorem d_M_half_51 : decode b_M_half 51 = .ok (.goto (-36), 3) := by decide +kernel
theorem d_M_half_54 : decode b_M_half 54 = .ok (.aload_n 0, 1) := by decide +kernel
theorem d_M_half_55 : decode b_M_half 55 = .ok (.bipush 16, 2) := by decide +kernel
theorem d_M_half_57 : decode b_M_half 57 = .ok (.dup2, 1) := by decide +kernel
theorem d_M_half_58 : decode b_M_half 58 = .ok (.laload, 1) := by decide +kernel
theorem d_M_half_59 : decode b_M_half 59 = .ok (.lload_n 2, 1) := by decide +kernel
theorem d_M_half_60 : decode b_M_half 60 = .ok (.ladd, 1) := by decide +kernel
theorem d_M_half_61 : decode b_M_half 61 = .ok (.lastore, 1) := by decide +kernel
theorem d_M_half_62 : decode b_M_half 62 = .ok (.iconst 0, 1) := by decide +kernel
theorem d_M_half_63 : decode b_M_half 63 = .ok (.istore_n 2, 1) := by decide +kernel
theorem d_M_half_64 : decode b_M_half 64 = .ok (.iload_n 2, 1) := by decide +kernel
theorem d_M_half_65 : decode b_M_half 65 = .ok (.bipush 16, 2) := by decide +kernel
theorem d_M_half_67 : decode b_M_half 67 = .ok (.if_icmp .ge 28, 3) := by decide +kernel
theorem d_M_half_70 : decode b_M_half 70 = .ok (.aload_n 0, 1) := by decide +kernel
theorem d_M_half_71 : decode b_M_half 71 = .ok (.iload_n 2, 1) := by decide +kernel
theorem d_M_half_72 : decode b_M_half 72 = .ok (.aload_n 0, 1) := by decide +kernel
theorem d_M_half_73 : decode b_M_half 73 = .ok (.iload_n 2, 1) := by decide +kernel
theorem d_M_half_74 : decode b_M_half 74 = .ok (.laload, 1) := by decide +kernel
theorem d_M_half_75 : decode b_M_half 75 = .ok (.iconst 1, 1) := by decide +kernel
theorem d_M_half_76 : decode b_M_half 76 = .ok (.lshr, 1) := by decide +kernel
theorem d_M_half_77 : decode b_M_half 77 = .ok (.aload_n 0, 1) := by decide +kernel
theorem d_M_half_78 : decode b_M_half 78 = .ok (.iload_n 2, 1) := by decide +kernel
theorem d_M_half_79 : decode b_M_half 79 = .ok (.iconst 1, 1) := by decide +kernel
theorem d_M_half_80 : decode b_M_half 80 = .ok (.iadd, 1) := by decide +kernel
theorem d_M_half_81 : decode b_M_half 81 = .ok (.laload, 1) := by decide +kernel
theorem d_M_half_82 : decode b_M_half 82 = .ok (.lconst 1, 1) := by decide +kernel
theorem d_M_half_83 : decode b_M_half 83 = .ok (.land, 1) := by decide +kernel
theorem d_M_half_84 : decode b_M_half 84 = .ok (.bipush 15, 2) := by decide +kernel
theorem d_M_half_86 : decode b_M_half 86 = .ok (.lshl, 1) := by decide +kernel
theorem d_M_half_87 : decode b_M_half 87 = .ok (.lor, 1) := by decide +kernel
theorem d_M_half_88 : decode b_M_half 88 = .ok (.lastore, 1) := by decide +kernel
theorem d_M_half_89 : decode b_M_half 89 = .ok (.iinc 2 1, 3) := by decide +kernel
theorem d_M_half_92 : decode b_M_half 92 = .ok (.goto (-28), 3) := by decide +kernel
theorem d_M_half_95 : decode b_M_half 95 = .ok (.aload_n 0, 1) := by decide +kernel
theorem d_M_half_96 : decode b_M_half 96 = .ok (.bipush 16, 2) := by decide +kernel
theorem d_M_half_98 : decode b_M_half 98 = .ok (.dup2, 1) := by decide +kernel
theorem d_M_half_99 : decode b_M_half 99 = .ok (.laload, 1) := by decide +kernel
theorem d_M_half_100 : decode b_M_half 100 = .ok (.iconst 1, 1) := by decide +kernel
theorem d_M_half_101 : decode b_M_half 101 = .ok (.lshr, 1) := by decide +kernel
theorem d_M_half_102 : decode b_M_half 102 = .ok (.lastore, 1) := by decide +kernel
theorem d_M_half_103 : decode b_M_half 103 = .ok (.return_, 1) := by decide +kernel
theorem d_M_halve_0 : decode b_M_halve 0 = .ok (.iconst 0, 1) := by decide +kernel
theorem d_M_halve_1 : decode b_M_halve 1 = .ok (.istore_n 1, 1) := by decide +kernel
theorem d_M_halve_2 : decode b_M_halve 2 = .ok (.iload_n 1, 1) := by decide +kernel
theorem d_M_halve_3 : decode b_M_halve 3 = .ok (.bipush 16, 2) := by decide +kernel
theorem d_M_halve_5 : decode b_M_halve 5 = .ok (.if_icmp .ge 38, 3) := by decide +kernel
theorem d_M_halve_8 : decode b_M_halve 8 = .ok (.aload_n 0, 1) := by decide +kernel
theorem d_M_halve_9 : decode b_M_halve 9 = .ok (.iload_n 1, 1) := by decide +kernel
theorem d_M_halve_10 : decode b_M_halve 10 = .ok (.aload_n 0, 1) := by decide +kernel
theorem d_M_halve_11 : decode b_M_halve 11 = .ok (.iload_n 1, 1) := by decide +kernel
theorem d_M_halve_12 : decode b_M_halve 12 = .ok (.laload, 1) := by decide +kernel
theorem d_M_halve_13 : decode b_M_halve 13 = .ok (.iconst 1, 1) := by decide +kernel
theorem d_M_halve_14 : decode b_M_halve 14 = .ok (.lshr, 1) := by decide +kernel
theorem d_M_halve_15 : decode b_M_halve 15 = .ok (.iload_n 1, 1) := by decide +kernel
theorem d_M_halve_16 : decode b_M_halve 16 = .ok (.bipush 15, 2) := by decide +kernel
theorem d_M_halve_18 : decode b_M_halve 18 = .ok (.if_icmp .ge 16, 3) := by decide +kernel
theorem d_M_halve_21 : decode b_M_halve 21 = .ok (.aload_n 0, 1) := by decide +kernel
theorem d_M_halve_22 : decode b_M_halve 22 = .ok (.iload_n 1, 1) := by decide +kernel
theorem d_M_halve_23 : decode b_M_halve 23 = .ok (.iconst 1, 1) := by decide +kernel
theorem d_M_halve_24 : decode b_M_halve 24 = .ok (.iadd, 1) := by decide +kernel
theorem d_M_halve_25 : decode b_M_halve 25 = .ok (.laload, 1) := by decide +kernel
theorem d_M_halve_26 : decode b_M_halve 26 = .ok (.lconst 1, 1) := by decide +kernel
theorem d_M_halve_27 : decode b_M_halve 27 = .ok (.land, 1) := by decide +kernel
theorem d_M_halve_28 : decode b_M_halve 28 = .ok (.bipush 15, 2) := by decide +kernel
theorem d_M_halve_30 : decode b_M_halve 30 = .ok (.lshl, 1) := by decide +kernel
theorem d_M_halve_31 : decode b_M_halve 31 = .ok (.goto 4, 3) := by decide +kernel
theorem d_M_halve_34 : decode b_M_halve 34 = .ok (.lconst 0, 1) := by decide +kernel
theorem d_M_halve_35 : decode b_M_halve 35 = .ok (.lor, 1) := by decide +kernel
theorem d_M_halve_36 : decode b_M_halve 36 = .ok (.lastore, 1) := by decide +kernel
theorem d_M_halve_37 : decode b_M_halve 37 = .ok (.iinc 1 1, 3) := by decide +kernel
theorem d_M_halve_40 : decode b_M_halve 40 = .ok (.goto (-38), 3) := by decide +kernel
theorem d_M_halve_43 : decode b_M_halve 43 = .ok (.return_, 1) := by decide +kernel
theorem d_M_one_0 : decode b_M_one 0 = .ok (.aload_n 0, 1) := by decide +kernel
theorem d_M_one_1 : decode b_M_one 1 = .ok (.iconst 0, 1) := by decide +kernel
theorem d_M_one_2 : decode b_M_one 2 = .ok (.laload, 1) := by decide +kernel
theorem d_M_one_3 : decode b_M_one 3 = .ok (.lconst 1, 1) := by decide +kernel
theorem d_M_one_4 : decode b_M_one 4 = .ok (.lcmp, 1) := by decide +kernel
theorem d_M_one_5 : decode b_M_one 5 = .ok (.ifCond .eq 5, 3) := by decide +kernel
theorem d_M_one_8 : decode b_M_one 8 = .ok (.iconst 0, 1) := by decide +kernel
theorem d_M_one_9 : decode b_M_one 9 = .ok (.ireturn, 1) := by decide +kernel
theorem d_M_one_10 : decode b_M_one 10 = .ok (.iconst 1, 1) := by decide +kernel
theorem d_M_one_11 : decode b_M_one 11 = .ok (.istore_n 1, 1) := by decide +kernel
theorem d_M_one_12 : decode b_M_one 12 = .ok (.iload_n 1, 1) := by decide +kernel
theorem d_M_one_13 : decode b_M_one 13 = .ok (.bipush 16, 2) := by decide +kernel
theorem d_M_one_15 : decode b_M_one 15 = .ok (.if_icmp .ge 19, 3) := by decide +kernel
theorem d_M_one_18 : decode b_M_one 18 = .ok (.aload_n 0, 1) := by decide +kernel
theorem d_M_one_19 : decode b_M_one 19 = .ok (.iload_n 1, 1) := by decide +kernel
theorem d_M_one_20 : decode b_M_one 20 = .ok (.laload, 1) := by decide +kernel
theorem d_M_one_21 : decode b_M_one 21 = .ok (.lconst 0, 1) := by decide +kernel
theorem d_M_one_22 : decode b_M_one 22 = .ok (.lcmp, 1) := by decide +kernel
theorem d_M_one_23 : decode b_M_one 23 = .ok (.ifCond .eq 5, 3) := by decide +kernel
theorem d_M_one_26 : decode b_M_one 26 = .ok (.iconst 0, 1) := by decide +kernel
theorem d_M_one_27 : decode b_M_one 27 = .ok (.ireturn, 1) := by decide +kernel
theorem d_M_one_28 : decode b_M_one 28 = .ok (.iinc 1 1, 3) := by decide +kernel
theorem d_M_one_31 : decode b_M_one 31 = .ok (.goto (-19), 3) := by decide +kernel
theorem d_M_one_34 : decode b_M_one 34 = .ok (.iconst 1, 1) := by decide +kernel
theorem d_M_one_35 : decode b_M_one 35 = .ok (.ireturn, 1) := by decide +kernel
theorem d_M_bit_0 : decode b_M_bit 0 = .ok (.aload_n 0, 1) := by decide +kernel
theorem d_M_bit_1 : decode b_M_bit 1 = .ok (.iload_n 1, 1) := by decide +kernel
theorem d_M_bit_2 : decode b_M_bit 2 = .ok (.iconst 4, 1) := by decide +kernel
theorem d_M_bit_3 : decode b_M_bit 3 = .ok (.ishr, 1) := by decide +kernel
theorem d_M_bit_4 : decode b_M_bit 4 = .ok (.laload, 1) := by decide +kernel
theorem d_M_bit_5 : decode b_M_bit 5 = .ok (.iload_n 1, 1) := by decide +kernel
theorem d_M_bit_6 : decode b_M_bit 6 = .ok (.bipush 15, 2) := by decide +kernel
theorem d_M_bit_8 : decode b_M_bit 8 = .ok (.iand, 1) := by decide +kernel
theorem d_M_bit_9 : decode b_M_bit 9 = .ok (.lshr, 1) := by decide +kernel
theorem d_M_bit_10 : decode b_M_bit 10 = .ok (.lconst 1, 1) := by decide +kernel
theorem d_M_bit_11 : decode b_M_bit 11 = .ok (.land, 1) := by decide +kernel
theorem d_M_bit_12 : decode b_M_bit 12 = .ok (.l2i, 1) := by decide +kernel
theorem d_M_bit_13 : decode b_M_bit 13 = .ok (.ireturn, 1) := by decide +kernel
theorem d_M_turned_0 : decode b_M_turned 0 = .ok (.lload_n 0, 1) := by decide +kernel
theorem d_M_turned_1 : decode b_M_turned 1 = .ok (.iload_n 2, 1) := by decide +kernel
theorem d_M_turned_2 : decode b_M_turned 2 = .ok (.lushr, 1) := by decide +kernel
theorem d_M_turned_3 : decode b_M_turned 3 = .ok (.lload_n 0, 1) := by decide +kernel
theorem d_M_turned_4 : decode b_M_turned 4 = .ok (.bipush 64, 2) := by decide +kernel
theorem d_M_turned_6 : decode b_M_turned 6 = .ok (.iload_n 2, 1) := by decide +kernel
theorem d_M_turned_7 : decode b_M_turned 7 = .ok (.isub, 1) := by decide +kernel
theorem d_M_turned_8 : decode b_M_turned 8 = .ok (.lshl, 1) := by decide +kernel
theorem d_M_turned_9 : decode b_M_turned 9 = .ok (.lor, 1) := by decide +kernel
theorem d_M_turned_10 : decode b_M_turned 10 = .ok (.lreturn, 1) := by decide +kernel
