theorem d_Ha_begin_0 : decode b_Ha_begin 0 = .ok (.getstatic 20, 3) := by decide +kernel
theorem d_Ha_begin_3 : decode b_Ha_begin 3 = .ok (.iconst 0, 1) := by decide +kernel
theorem d_Ha_begin_4 : decode b_Ha_begin 4 = .ok (.aload_n 0, 1) := by decide +kernel
theorem d_Ha_begin_5 : decode b_Ha_begin 5 = .ok (.getfield 7, 3) := by decide +kernel
theorem d_Ha_begin_8 : decode b_Ha_begin 8 = .ok (.iconst 0, 1) := by decide +kernel
theorem d_Ha_begin_9 : decode b_Ha_begin 9 = .ok (.bipush 8, 2) := by decide +kernel
theorem d_Ha_begin_11 : decode b_Ha_begin 11 = .ok (.invokestatic 23, 3) := by decide +kernel
theorem d_Ha_begin_14 : decode b_Ha_begin 14 = .ok (.aload_n 0, 1) := by decide +kernel
theorem d_Ha_begin_15 : decode b_Ha_begin 15 = .ok (.iconst 0, 1) := by decide +kernel
theorem d_Ha_begin_16 : decode b_Ha_begin 16 = .ok (.putfield 29, 3) := by decide +kernel
theorem d_Ha_begin_19 : decode b_Ha_begin 19 = .ok (.aload_n 0, 1) := by decide +kernel
theorem d_Ha_begin_20 : decode b_Ha_begin 20 = .ok (.iconst 0, 1) := by decide +kernel
theorem d_Ha_begin_21 : decode b_Ha_begin 21 = .ok (.putfield 33, 3) := by decide +kernel
theorem d_Ha_begin_24 : decode b_Ha_begin 24 = .ok (.return_, 1) := by decide +kernel
theorem d_Ha_take_0 : decode b_Ha_take 0 = .ok (.iconst 0, 1) := by decide +kernel
theorem d_Ha_take_1 : decode b_Ha_take 1 = .ok (.istore_n 3, 1) := by decide +kernel
theorem d_Ha_take_2 : decode b_Ha_take 2 = .ok (.iload_n 3, 1) := by decide +kernel
theorem d_Ha_take_3 : decode b_Ha_take 3 = .ok (.iload_n 2, 1) := by decide +kernel
theorem d_Ha_take_4 : decode b_Ha_take 4 = .ok (.if_icmp .ge 50, 3) := by decide +kernel
theorem d_Ha_take_7 : decode b_Ha_take 7 = .ok (.aload_n 0, 1) := by decide +kernel
theorem d_Ha_take_8 : decode b_Ha_take 8 = .ok (.getfield 16, 3) := by decide +kernel
theorem d_Ha_take_11 : decode b_Ha_take 11 = .ok (.aload_n 0, 1) := by decide +kernel
theorem d_Ha_take_12 : decode b_Ha_take 12 = .ok (.getfield 29, 3) := by decide +kernel
theorem d_Ha_take_15 : decode b_Ha_take 15 = .ok (.aload_n 1, 1) := by decide +kernel
theorem d_Ha_take_16 : decode b_Ha_take 16 = .ok (.iload_n 3, 1) := by decide +kernel
theorem d_Ha_take_17 : decode b_Ha_take 17 = .ok (.baload, 1) := by decide +kernel
theorem d_Ha_take_18 : decode b_Ha_take 18 = .ok (.bastore, 1) := by decide +kernel
theorem d_Ha_take_19 : decode b_Ha_take 19 = .ok (.aload_n 0, 1) := by decide +kernel
theorem d_Ha_take_20 : decode b_Ha_take 20 = .ok (.dup, 1) := by decide +kernel
theorem d_Ha_take_21 : decode b_Ha_take 21 = .ok (.getfield 29, 3) := by decide +kernel
theorem d_Ha_take_24 : decode b_Ha_take 24 = .ok (.iconst 1, 1) := by decide +kernel
theorem d_Ha_take_25 : decode b_Ha_take 25 = .ok (.iadd, 1) := by decide +kernel
theorem d_Ha_take_26 : decode b_Ha_take 26 = .ok (.putfield 29, 3) := by decide +kernel
theorem d_Ha_take_29 : decode b_Ha_take 29 = .ok (.aload_n 0, 1) := by decide +kernel
theorem d_Ha_take_30 : decode b_Ha_take 30 = .ok (.getfield 29, 3) := by decide +kernel
theorem d_Ha_take_33 : decode b_Ha_take 33 = .ok (.sipush 128, 3) := by decide +kernel
theorem d_Ha_take_36 : decode b_Ha_take 36 = .ok (.if_icmp .ne 12, 3) := by decide +kernel
theorem d_Ha_take_39 : decode b_Ha_take 39 = .ok (.aload_n 0, 1) := by decide +kernel
theorem d_Ha_take_40 : decode b_Ha_take 40 = .ok (.invokevirtual 36, 3) := by decide +kernel
theorem d_Ha_take_43 : decode b_Ha_take 43 = .ok (.aload_n 0, 1) := by decide +kernel
theorem d_Ha_take_44 : decode b_Ha_take 44 = .ok (.iconst 0, 1) := by decide +kernel
theorem d_Ha_take_45 : decode b_Ha_take 45 = .ok (.putfield 29, 3) := by decide +kernel
theorem d_Ha_take_48 : decode b_Ha_take 48 = .ok (.iinc 3 1, 3) := by decide +kernel
theorem d_Ha_take_51 : decode b_Ha_take 51 = .ok (.goto (-49), 3) := by decide +kernel
theorem d_Ha_take_54 : decode b_Ha_take 54 = .ok (.aload_n 0, 1) := by decide +kernel
theorem d_Ha_take_55 : decode b_Ha_take 55 = .ok (.dup, 1) := by decide +kernel
theorem d_Ha_take_56 : decode b_Ha_take 56 = .ok (.getfield 33, 3) := by decide +kernel
theorem d_Ha_take_59 : decode b_Ha_take 59 = .ok (.iload_n 2, 1) := by decide +kernel
theorem d_Ha_take_60 : decode b_Ha_take 60 = .ok (.iadd, 1) := by decide +kernel
theorem d_Ha_take_61 : decode b_Ha_take 61 = .ok (.putfield 33, 3) := by decide +kernel
theorem d_Ha_take_64 : decode b_Ha_take 64 = .ok (.return_, 1) := by decide +kernel
theorem d_Ha_finish_0 : decode b_Ha_finish 0 = .ok (.aload_n 0, 1) := by decide +kernel
theorem d_Ha_finish_1 : decode b_Ha_finish 1 = .ok (.getfield 16, 3) := by decide +kernel
theorem d_Ha_finish_4 : decode b_Ha_finish 4 = .ok (.aload_n 0, 1) := by decide +kernel
theorem d_Ha_finish_5 : decode b_Ha_finish 5 = .ok (.getfield 29, 3) := by decide +kernel
theorem d_Ha_finish_8 : decode b_Ha_finish 8 = .ok (.bipush (-128), 2) := by decide +kernel
theorem d_Ha_finish_10 : decode b_Ha_finish 10 = .ok (.bastore, 1) := by decide +kernel
theorem d_Ha_finish_11 : decode b_Ha_finish 11 = .ok (.aload_n 0, 1) := by decide +kernel
theorem d_Ha_finish_12 : decode b_Ha_finish 12 = .ok (.getfield 16, 3) := by decide +kernel
theorem d_Ha_finish_15 : decode b_Ha_finish 15 = .ok (.aload_n 0, 1) := by decide +kernel
theorem d_Ha_finish_16 : decode b_Ha_finish 16 = .ok (.getfield 29, 3) := by decide +kernel
theorem d_Ha_finish_19 : decode b_Ha_finish 19 = .ok (.iconst 1, 1) := by decide +kernel
theorem d_Ha_finish_20 : decode b_Ha_finish 20 = .ok (.iadd, 1) := by decide +kernel
theorem d_Ha_finish_21 : decode b_Ha_finish 21 = .ok (.sipush 128, 3) := by decide +kernel
theorem d_Ha_finish_24 : decode b_Ha_finish 24 = .ok (.iconst 0, 1) := by decide +kernel
theorem d_Ha_finish_25 : decode b_Ha_finish 25 = .ok (.invokestatic 39, 3) := by decide +kernel
theorem d_Ha_finish_28 : decode b_Ha_finish 28 = .ok (.aload_n 0, 1) := by decide +kernel
theorem d_Ha_finish_29 : decode b_Ha_finish 29 = .ok (.getfield 29, 3) := by decide +kernel
theorem d_Ha_finish_32 : decode b_Ha_finish 32 = .ok (.bipush 112, 2) := by decide +kernel
theorem d_Ha_finish_34 : decode b_Ha_finish 34 = .ok (.if_icmp .lt 15, 3) := by decide +kernel
theorem d_Ha_finish_37 : decode b_Ha_finish 37 = .ok (.aload_n 0, 1) := by decide +kernel
theorem d_Ha_finish_38 : decode b_Ha_finish 38 = .ok (.invokevirtual 36, 3) := by decide +kernel
theorem d_Ha_finish_41 : decode b_Ha_finish 41 = .ok (.aload_n 0, 1) := by decide +kernel
theorem d_Ha_finish_42 : decode b_Ha_finish 42 = .ok (.getfield 16, 3) := by decide +kernel
theorem d_Ha_finish_45 : decode b_Ha_finish 45 = .ok (.iconst 0, 1) := by decide +kernel
theorem d_Ha_finish_46 : decode b_Ha_finish 46 = .ok (.invokestatic 45, 3) := by decide +kernel
theorem d_Ha_finish_49 : decode b_Ha_finish 49 = .ok (.aload_n 0, 1) := by decide +kernel
theorem d_Ha_finish_50 : decode b_Ha_finish 50 = .ok (.getfield 16, 3) := by decide +kernel
theorem d_Ha_finish_53 : decode b_Ha_finish 53 = .ok (.bipush 120, 2) := by decide +kernel
theorem d_Ha_finish_55 : decode b_Ha_finish 55 = .ok (.ldc2_w 48, 3) := by decide +kernel
theorem d_Ha_finish_58 : decode b_Ha_finish 58 = .ok (.aload_n 0, 1) := by decide +kernel
theorem d_Ha_finish_59 : decode b_Ha_finish 59 = .ok (.getfield 33, 3) := by decide +kernel
theorem d_Ha_finish_62 : decode b_Ha_finish 62 = .ok (.i2l, 1) := by decide +kernel
theorem d_Ha_finish_63 : decode b_Ha_finish 63 = .ok (.lmul, 1) := by decide +kernel
theorem d_Ha_finish_64 : decode b_Ha_finish 64 = .ok (.invokestatic 50, 3) := by decide +kernel
theorem d_Ha_finish_67 : decode b_Ha_finish 67 = .ok (.aload_n 0, 1) := by decide +kernel
theorem d_Ha_finish_68 : decode b_Ha_finish 68 = .ok (.invokevirtual 36, 3) := by decide +kernel
theorem d_Ha_finish_71 : decode b_Ha_finish 71 = .ok (.iconst 0, 1) := by decide +kernel
theorem d_Ha_finish_72 : decode b_Ha_finish 72 = .ok (.istore_n 2, 1) := by decide +kernel
theorem d_Ha_finish_73 : decode b_Ha_finish 73 = .ok (.iload_n 2, 1) := by decide +kernel
theorem d_Ha_finish_74 : decode b_Ha_finish 74 = .ok (.bipush 8, 2) := by decide +kernel
theorem d_Ha_finish_76 : decode b_Ha_finish 76 = .ok (.if_icmp .ge 23, 3) := by decide +kernel
theorem d_Ha_finish_79 : decode b_Ha_finish 79 = .ok (.aload_n 1, 1) := by decide +kernel
theorem d_Ha_finish_80 : decode b_Ha_finish 80 = .ok (.bipush 8, 2) := by decide +kernel
theorem d_Ha_finish_82 : decode b_Ha_finish 82 = .ok (.iload_n 2, 1) := by decide +kernel
theorem d_Ha_finish_83 : decode b_Ha_finish 83 = .ok (.imul, 1) := by decide +kernel
theorem d_Ha_finish_84 : decode b_Ha_finish 84 = .ok (.aload_n 0, 1) := by decide +kernel
theorem d_Ha_finish_85 : decode b_Ha_finish 85 = .ok (.getfield 7, 3) := by decide +kernel
theorem d_Ha_finish_88 : decode b_Ha_finish 88 = .ok (.iload_n 2, 1) := by decide +kernel
theorem d_Ha_finish_89 : decode b_Ha_finish 89 = .ok (.laload, 1) := by decide +kernel
theorem d_Ha_finish_90 : decode b_Ha_finish 90 = .ok (.invokestatic 50, 3) := by decide +kernel
theorem d_Ha_finish_93 : decode b_Ha_finish 93 = .ok (.iinc 2 1, 3) := by decide +kernel
theorem d_Ha_finish_96 : decode b_Ha_finish 96 = .ok (.goto (-23), 3) := by decide +kernel
theorem d_Ha_finish_99 : decode b_Ha_finish 99 = .ok (.return_, 1) := by decide +kernel
theorem d_Si_makeReady_0 : decode b_Si_makeReady 0 = .ok (.aload_n 1, 1) := by decide +kernel
theorem d_Si_makeReady_1 : decode b_Si_makeReady 1 = .ok (.getfield 48, 3) := by decide +kernel
theorem d_Si_makeReady_4 : decode b_Si_makeReady 4 = .ok (.ifCond .eq 4, 3) := by decide +kernel
theorem d_Si_makeReady_7 : decode b_Si_makeReady 7 = .ok (.return_, 1) := by decide +kernel
theorem d_Si_makeReady_8 : decode b_Si_makeReady 8 = .ok (.aload_n 0, 1) := by decide +kernel
theorem d_Si_makeReady_9 : decode b_Si_makeReady 9 = .ok (.getfield 12, 3) := by decide +kernel
theorem d_Si_makeReady_12 : decode b_Si_makeReady 12 = .ok (.invokevirtual 54, 3) := by decide +kernel
theorem d_Si_makeReady_15 : decode b_Si_makeReady 15 = .ok (.aload_n 0, 1) := by decide +kernel
theorem d_Si_makeReady_16 : decode b_Si_makeReady 16 = .ok (.getfield 12, 3) := by decide +kernel
theorem d_Si_makeReady_19 : decode b_Si_makeReady 19 = .ok (.aload_n 1, 1) := by decide +kernel
theorem d_Si_makeReady_20 : decode b_Si_makeReady 20 = .ok (.getfield 57, 3) := by decide +kernel
theorem d_Si_makeReady_23 : decode b_Si_makeReady 23 = .ok (.bipush 32, 2) := by decide +kernel
theorem d_Si_makeReady_25 : decode b_Si_makeReady 25 = .ok (.invokevirtual 60, 3) := by decide +kernel
theorem d_Si_makeReady_28 : decode b_Si_makeReady 28 = .ok (.aload_n 0, 1) := by decide +kernel
theorem d_Si_makeReady_29 : decode b_Si_makeReady 29 = .ok (.getfield 12, 3) := by decide +kernel
theorem d_Si_makeReady_32 : decode b_Si_makeReady 32 = .ok (.aload_n 0, 1) := by decide +kernel
theorem d_Si_makeReady_33 : decode b_Si_makeReady 33 = .ok (.getfield 25, 3) := by decide +kernel
theorem d_Si_makeReady_36 : decode b_Si_makeReady 36 = .ok (.invokevirtual 64, 3) := by decide +kernel
theorem d_Si_makeReady_39 : decode b_Si_makeReady 39 = .ok (.aload_n 0, 1) := by decide +kernel
theorem d_Si_makeReady_40 : decode b_Si_makeReady 40 = .ok (.getfield 25, 3) := by decide +kernel
theorem d_Si_makeReady_43 : decode b_Si_makeReady 43 = .ok (.iconst 0, 1) := by decide +kernel
theorem d_Si_makeReady_44 : decode b_Si_makeReady 44 = .ok (.aload_n 1, 1) := by decide +kernel
theorem d_Si_makeReady_45 : decode b_Si_makeReady 45 = .ok (.getfield 68, 3) := by decide +kernel
theorem d_Si_makeReady_48 : decode b_Si_makeReady 48 = .ok (.iconst 0, 1) := by decide +kernel
theorem d_Si_makeReady_49 : decode b_Si_makeReady 49 = .ok (.bipush 32, 2) := by decide +kernel
theorem d_Si_makeReady_51 : decode b_Si_makeReady 51 = .ok (.invokestatic 71, 3) := by decide +kernel
theorem d_Si_makeReady_54 : decode b_Si_makeReady 54 = .ok (.aload_n 0, 1) := by decide +kernel
theorem d_Si_makeReady_55 : decode b_Si_makeReady 55 = .ok (.getfield 25, 3) := by decide +kernel
theorem d_Si_makeReady_58 : decode b_Si_makeReady 58 = .ok (.bipush 32, 2) := by decide +kernel
theorem d_Si_makeReady_60 : decode b_Si_makeReady 60 = .ok (.aload_n 1, 1) := by decide +kernel
theorem d_Si_makeReady_61 : decode b_Si_makeReady 61 = .ok (.getfield 77, 3) := by decide +kernel
theorem d_Si_makeReady_64 : decode b_Si_makeReady 64 = .ok (.iconst 0, 1) := by decide +kernel
theorem d_Si_makeReady_65 : decode b_Si_makeReady 65 = .ok (.bipush 32, 2) := by decide +kernel
theorem d_Si_makeReady_67 : decode b_Si_makeReady 67 = .ok (.invokestatic 71, 3) := by decide +kernel
theorem d_Si_makeReady_70 : decode b_Si_makeReady 70 = .ok (.aload_n 1, 1) := by decide +kernel
theorem d_Si_makeReady_71 : decode b_Si_makeReady 71 = .ok (.getfield 68, 3) := by decide +kernel
theorem d_Si_makeReady_74 : decode b_Si_makeReady 74 = .ok (.invokestatic 80, 3) := by decide +kernel
theorem d_Si_makeReady_77 : decode b_Si_makeReady 77 = .ok (.aload_n 0, 1) := by decide +kernel
theorem d_Si_makeReady_78 : decode b_Si_makeReady 78 = .ok (.getfield 44, 3) := by decide +kernel
theorem d_Si_makeReady_81 : decode b_Si_makeReady 81 = .ok (.aload_n 1, 1) := by decide +kernel
theorem d_Si_makeReady_82 : decode b_Si_makeReady 82 = .ok (.getfield 68, 3) := by decide +kernel
theorem d_Si_makeReady_85 : decode b_Si_makeReady 85 = .ok (.invokevirtual 83, 3) := by decide +kernel
theorem d_Si_makeReady_88 : decode b_Si_makeReady 88 = .ok (.aload_n 0, 1) := by decide +kernel
theorem d_Si_makeReady_89 : decode b_Si_makeReady 89 = .ok (.getfield 44, 3) := by decide +kernel
theorem d_Si_makeReady_92 : decode b_Si_makeReady 92 = .ok (.aload_n 1, 1) := by decide +kernel
theorem d_Si_makeReady_93 : decode b_Si_makeReady 93 = .ok (.getfield 88, 3) := by decide +kernel
theorem d_Si_makeReady_96 : decode b_Si_makeReady 96 = .ok (.invokevirtual 91, 3) := by decide +kernel
theorem d_Si_makeReady_99 : decode b_Si_makeReady 99 = .ok (.aload_n 1, 1) := by decide +kernel
theorem d_Si_makeReady_100 : decode b_Si_makeReady 100 = .ok (.iconst 1, 1) := by decide +kernel
theorem d_Si_makeReady_101 : decode b_Si_makeReady 101 = .ok (.putfield 48, 3) := by decide +kernel
theorem d_Si_makeReady_104 : decode b_Si_makeReady 104 = .ok (.return_, 1) := by decide +kernel
theorem d_Si_hashChallenge_0 : decode b_Si_hashChallenge 0 = .ok (.aload_n 0, 1) := by decide +kernel
theorem d_Si_hashChallenge_1 : decode b_Si_hashChallenge 1 = .ok (.getfield 12, 3) := by decide +kernel
theorem d_Si_hashChallenge_4 : decode b_Si_hashChallenge 4 = .ok (.invokevirtual 54, 3) := by decide +kernel
theorem d_Si_hashChallenge_7 : decode b_Si_hashChallenge 7 = .ok (.aload_n 0, 1) := by decide +kernel
theorem d_Si_hashChallenge_8 : decode b_Si_hashChallenge 8 = .ok (.getfield 12, 3) := by decide +kernel
theorem d_Si_hashChallenge_11 : decode b_Si_hashChallenge 11 = .ok (.aload_n 0, 1) := by decide +kernel
theorem d_Si_hashChallenge_12 : decode b_Si_hashChallenge 12 = .ok (.getfield 38, 3) := by decide +kernel
theorem d_Si_hashChallenge_15 : decode b_Si_hashChallenge 15 = .ok (.bipush 32, 2) := by decide +kernel
theorem d_Si_hashChallenge_17 : decode b_Si_hashChallenge 17 = .ok (.invokevirtual 60, 3) := by decide +kernel
theorem d_Si_hashChallenge_20 : decode b_Si_hashChallenge 20 = .ok (.aload_n 0, 1) := by decide +kernel
theorem d_Si_hashChallenge_21 : decode b_Si_hashChallenge 21 = .ok (.getfield 12, 3) := by decide +kernel
theorem d_Si_hashChallenge_24 : decode b_Si_hashChallenge 24 = .ok (.aload_n 1, 1) := by decide +kernel
theorem d_Si_hashChallenge_25 : decode b_Si_hashChallenge 25 = .ok (.bipush 32, 2) := by decide +kernel
theorem d_Si_hashChallenge_27 : decode b_Si_hashChallenge 27 = .ok (.invokevirtual 60, 3) := by decide +kernel
theorem d_Si_hashChallenge_30 : decode b_Si_hashChallenge 30 = .ok (.aload_n 0, 1) := by decide +kernel
theorem d_Si_hashChallenge_31 : decode b_Si_hashChallenge 31 = .ok (.getfield 12, 3) := by decide +kernel
theorem d_Si_hashChallenge_34 : decode b_Si_hashChallenge 34 = .ok (.aload_n 2, 1) := by decide +kernel
theorem d_Si_hashChallenge_35 : decode b_Si_hashChallenge 35 = .ok (.getfield 94, 3) := by decide +kernel
theorem d_Si_hashChallenge_38 : decode b_Si_hashChallenge 38 = .ok (.aload_n 2, 1) := by decide +kernel
theorem d_Si_hashChallenge_39 : decode b_Si_hashChallenge 39 = .ok (.getfield 99, 3) := by decide +kernel
theorem d_Si_hashChallenge_42 : decode b_Si_hashChallenge 42 = .ok (.invokevirtual 60, 3) := by decide +kernel
theorem d_Si_hashChallenge_45 : decode b_Si_hashChallenge 45 = .ok (.aload_n 0, 1) := by decide +kernel
theorem d_Si_hashChallenge_46 : decode b_Si_hashChallenge 46 = .ok (.getfield 12, 3) := by decide +kernel
theorem d_Si_hashChallenge_49 : decode b_Si_hashChallenge 49 = .ok (.aload_n 0, 1) := by decide +kernel
theorem d_Si_hashChallenge_50 : decode b_Si_hashChallenge 50 = .ok (.getfield 25, 3) := by decide +kernel
theorem d_Si_hashChallenge_53 : decode b_Si_hashChallenge 53 = .ok (.invokevirtual 64, 3) := by decide +kernel
theorem d_Si_hashChallenge_56 : decode b_Si_hashChallenge 56 = .ok (.return_, 1) := by decide +kernel
theorem d_Si_writeSignature_0 : decode b_Si_writeSignature 0 = .ok (.aload_n 0, 1) := by decide +kernel
theorem d_Si_writeSignature_1 : decode b_Si_writeSignature 1 = .ok (.getfield 12, 3) := by decide +kernel
theorem d_Si_writeSignature_4 : decode b_Si_writeSignature 4 = .ok (.invokevirtual 54, 3) := by decide +kernel
theorem d_Si_writeSignature_7 : decode b_Si_writeSignature 7 = .ok (.aload_n 0, 1) := by decide +kernel
theorem d_Si_writeSignature_8 : decode b_Si_writeSignature 8 = .ok (.getfield 12, 3) := by decide +kernel
theorem d_Si_writeSignature_11 : decode b_Si_writeSignature 11 = .ok (.aload_n 2, 1) := by decide +kernel
theorem d_Si_writeSignature_12 : decode b_Si_writeSignature 12 = .ok (.getfield 77, 3) := by decide +kernel
theorem d_Si_writeSignature_15 : decode b_Si_writeSignature 15 = .ok (.bipush 32, 2) := by decide +kernel
theorem d_Si_writeSignature_17 : decode b_Si_writeSignature 17 = .ok (.invokevirtual 60, 3) := by decide +kernel
theorem d_Si_writeSignature_20 : decode b_Si_writeSignature 20 = .ok (.aload_n 0, 1) := by decide +kernel
theorem d_Si_writeSignature_21 : decode b_Si_writeSignature 21 = .ok (.getfield 12, 3) := by decide +kernel
theorem d_Si_writeSignature_24 : decode b_Si_writeSignature 24 = .ok (.aload_n 3, 1) := by decide +kernel
theorem d_Si_writeSignature_25 : decode b_Si_writeSignature 25 = .ok (.getfield 94, 3) := by decide +kernel
theorem d_Si_writeSignature_28 : decode b_Si_writeSignature 28 = .ok (.aload_n 3, 1) := by decide +kernel
theorem d_Si_writeSignature_29 : decode b_Si_writeSignature 29 = .ok (.getfield 99, 3) := by decide +kernel
theorem d_Si_writeSignature_32 : decode b_Si_writeSignature 32 = .ok (.invokevirtual 60, 3) := by decide +kernel
theorem d_Si_writeSignature_35 : decode b_Si_writeSignature 35 = .ok (.aload_n 0, 1) := by decide +kernel
theorem d_Si_writeSignature_36 : decode b_Si_writeSignature 36 = .ok (.getfield 12, 3) := by decide +kernel
theorem d_Si_writeSignature_39 : decode b_Si_writeSignature 39 = .ok (.aload_n 0, 1) := by decide +kernel
theorem d_Si_writeSignature_40 : decode b_Si_writeSignature 40 = .ok (.getfield 25, 3) := by decide +kernel
theorem d_Si_writeSignature_43 : decode b_Si_writeSignature 43 = .ok (.invokevirtual 64, 3) := by decide +kernel
theorem d_Si_writeSignature_46 : decode b_Si_writeSignature 46 = .ok (.aload_n 0, 1) := by decide +kernel
theorem d_Si_writeSignature_47 : decode b_Si_writeSignature 47 = .ok (.getfield 21, 3) := by decide +kernel
theorem d_Si_writeSignature_50 : decode b_Si_writeSignature 50 = .ok (.aload_n 0, 1) := by decide +kernel
theorem d_Si_writeSignature_51 : decode b_Si_writeSignature 51 = .ok (.getfield 29, 3) := by decide +kernel
theorem d_Si_writeSignature_54 : decode b_Si_writeSignature 54 = .ok (.aload_n 0, 1) := by decide +kernel
theorem d_Si_writeSignature_55 : decode b_Si_writeSignature 55 = .ok (.getfield 25, 3) := by decide +kernel
theorem d_Si_writeSignature_58 : decode b_Si_writeSignature 58 = .ok (.invokevirtual 103, 3) := by decide +kernel
theorem d_Si_writeSignature_61 : decode b_Si_writeSignature 61 = .ok (.aload_n 0, 1) := by decide +kernel
theorem d_Si_writeSignature_62 : decode b_Si_writeSignature 62 = .ok (.getfield 44, 3) := by decide +kernel
theorem d_Si_writeSignature_65 : decode b_Si_writeSignature 65 = .ok (.aload_n 0, 1) := by decide +kernel
theorem d_Si_writeSignature_66 : decode b_Si_writeSignature 66 = .ok (.getfield 29, 3) := by decide +kernel
theorem d_Si_writeSignature_69 : decode b_Si_writeSignature 69 = .ok (.invokevirtual 83, 3) := by decide +kernel
theorem d_Si_writeSignature_72 : decode b_Si_writeSignature 72 = .ok (.aload_n 0, 1) := by decide +kernel
theorem d_Si_writeSignature_73 : decode b_Si_writeSignature 73 = .ok (.getfield 44, 3) := by decide +kernel
theorem d_Si_writeSignature_76 : decode b_Si_writeSignature 76 = .ok (.aload_n 0, 1) := by decide +kernel
theorem d_Si_writeSignature_77 : decode b_Si_writeSignature 77 = .ok (.getfield 38, 3) := by decide +kernel
theorem d_Si_writeSignature_80 : decode b_Si_writeSignature 80 = .ok (.invokevirtual 91, 3) := by decide +kernel
theorem d_Si_writeSignature_83 : decode b_Si_writeSignature 83 = .ok (.aload_n 0, 1) := by decide +kernel
theorem d_Si_writeSignature_84 : decode b_Si_writeSignature 84 = .ok (.aload_n 2, 1) := by decide +kernel
theorem d_Si_writeSignature_85 : decode b_Si_writeSignature 85 = .ok (.getfield 88, 3) := by decide +kernel
theorem d_Si_writeSignature_88 : decode b_Si_writeSignature 88 = .ok (.aload_n 3, 1) := by decide +kernel
theorem d_Si_writeSignature_89 : decode b_Si_writeSignature 89 = .ok (.invokevirtual 107, 3) := by decide +kernel
theorem d_Si_writeSignature_92 : decode b_Si_writeSignature 92 = .ok (.aload_n 0, 1) := by decide +kernel
theorem d_Si_writeSignature_93 : decode b_Si_writeSignature 93 = .ok (.getfield 21, 3) := by decide +kernel
theorem d_Si_writeSignature_96 : decode b_Si_writeSignature 96 = .ok (.aload_n 0, 1) := by decide +kernel
theorem d_Si_writeSignature_97 : decode b_Si_writeSignature 97 = .ok (.getfield 32, 3) := by decide +kernel
theorem d_Si_writeSignature_100 : decode b_Si_writeSignature 100 = .ok (.aload_n 0, 1) := by decide +kernel
theorem d_Si_writeSignature_101 : decode b_Si_writeSignature 101 = .ok (.getfield 25, 3) := by decide +kernel
theorem d_Si_writeSignature_104 : decode b_Si_writeSignature 104 = .ok (.invokevirtual 103, 3) := by decide +kernel
theorem d_Si_writeSignature_107 : decode b_Si_writeSignature 107 = .ok (.aload_n 0, 1) := by decide +kernel
theorem d_Si_writeSignature_108 : decode b_Si_writeSignature 108 = .ok (.getfield 21, 3) := by decide +kernel
theorem d_Si_writeSignature_111 : decode b_Si_writeSignature 111 = .ok (.aload_n 0, 1) := by decide +kernel
theorem d_Si_writeSignature_112 : decode b_Si_writeSignature 112 = .ok (.getfield 35, 3) := by decide +kernel
theorem d_Si_writeSignature_115 : decode b_Si_writeSignature 115 = .ok (.aload_n 0, 1) := by decide +kernel
theorem d_Si_writeSignature_116 : decode b_Si_writeSignature 116 = .ok (.getfield 32, 3) := by decide +kernel
theorem d_Si_writeSignature_119 : decode b_Si_writeSignature 119 = .ok (.aload_n 2, 1) := by decide +kernel
theorem d_Si_writeSignature_120 : decode b_Si_writeSignature 120 = .ok (.getfield 68, 3) := by decide +kernel
theorem d_Si_writeSignature_123 : decode b_Si_writeSignature 123 = .ok (.aload_n 0, 1) := by decide +kernel
theorem d_Si_writeSignature_124 : decode b_Si_writeSignature 124 = .ok (.getfield 29, 3) := by decide +kernel
theorem d_Si_writeSignature_127 : decode b_Si_writeSignature 127 = .ok (.invokevirtual 111, 3) := by decide +kernel
theorem d_Si_writeSignature_130 : decode b_Si_writeSignature 130 = .ok (.aload_n 0, 1) := by decide +kernel
theorem d_Si_writeSignature_131 : decode b_Si_writeSignature 131 = .ok (.getfield 38, 3) := by decide +kernel
theorem d_Si_writeSignature_134 : decode b_Si_writeSignature 134 = .ok (.iconst 0, 1) := by decide +kernel
theorem d_Si_writeSignature_135 : decode b_Si_writeSignature 135 = .ok (.aload_n 1, 1) := by decide +kernel
theorem d_Si_writeSignature_136 : decode b_Si_writeSignature 136 = .ok (.iconst 0, 1) := by decide +kernel
theorem d_Si_writeSignature_137 : decode b_Si_writeSignature 137 = .ok (.bipush 32, 2) := by decide +kernel
theorem d_Si_writeSignature_139 : decode b_Si_writeSignature 139 = .ok (.invokestatic 71, 3) := by decide +kernel
theorem d_Si_writeSignature_142 : decode b_Si_writeSignature 142 = .ok (.aload_n 0, 1) := by decide +kernel
theorem d_Si_writeSignature_143 : decode b_Si_writeSignature 143 = .ok (.getfield 35, 3) := by decide +kernel
theorem d_Si_writeSignature_146 : decode b_Si_writeSignature 146 = .ok (.iconst 0, 1) := by decide +kernel
theorem d_Si_writeSignature_147 : decode b_Si_writeSignature 147 = .ok (.aload_n 1, 1) := by decide +kernel
theorem d_Si_writeSignature_148 : decode b_Si_writeSignature 148 = .ok (.bipush 32, 2) := by decide +kernel
theorem d_Si_writeSignature_150 : decode b_Si_writeSignature 150 = .ok (.bipush 32, 2) := by decide +kernel
theorem d_Si_writeSignature_152 : decode b_Si_writeSignature 152 = .ok (.invokestatic 71, 3) := by decide +kernel
theorem d_Si_writeSignature_155 : decode b_Si_writeSignature 155 = .ok (.return_, 1) := by decide +kernel
theorem d_Si_judge_0 : decode b_Si_judge 0 = .ok (.aload_n 1, 1) := by decide +kernel
theorem d_Si_judge_1 : decode b_Si_judge 1 = .ok (.bipush 32, 2) := by decide +kernel
theorem d_Si_judge_3 : decode b_Si_judge 3 = .ok (.aload_n 0, 1) := by decide +kernel
theorem d_Si_judge_4 : decode b_Si_judge 4 = .ok (.getfield 38, 3) := by decide +kernel
theorem d_Si_judge_7 : decode b_Si_judge 7 = .ok (.iconst 0, 1) := by decide +kernel
theorem d_Si_judge_8 : decode b_Si_judge 8 = .ok (.bipush 32, 2) := by decide +kernel
theorem d_Si_judge_10 : decode b_Si_judge 10 = .ok (.invokestatic 71, 3) := by decide +kernel
theorem d_Si_judge_13 : decode b_Si_judge 13 = .ok (.aload_n 1, 1) := by decide +kernel
theorem d_Si_judge_14 : decode b_Si_judge 14 = .ok (.bipush 64, 2) := by decide +kernel
theorem d_Si_judge_16 : decode b_Si_judge 16 = .ok (.aload_n 0, 1) := by decide +kernel
theorem d_Si_judge_17 : decode b_Si_judge 17 = .ok (.getfield 35, 3) := by decide +kernel
theorem d_Si_judge_20 : decode b_Si_judge 20 = .ok (.iconst 0, 1) := by decide +kernel
theorem d_Si_judge_21 : decode b_Si_judge 21 = .ok (.bipush 32, 2) := by decide +kernel
theorem d_Si_judge_23 : decode b_Si_judge 23 = .ok (.invokestatic 71, 3) := by decide +kernel
theorem d_Si_judge_26 : decode b_Si_judge 26 = .ok (.aload_n 0, 1) := by decide +kernel
theorem d_Si_judge_27 : decode b_Si_judge 27 = .ok (.getfield 35, 3) := by decide +kernel
theorem d_Si_judge_30 : decode b_Si_judge 30 = .ok (.invokestatic 115, 3) := by decide +kernel
theorem d_Si_judge_33 : decode b_Si_judge 33 = .ok (.ifCond .ne 5, 3) := by decide +kernel
theorem d_Si_judge_36 : decode b_Si_judge 36 = .ok (.iconst 1, 1) := by decide +kernel
theorem d_Si_judge_37 : decode b_Si_judge 37 = .ok (.ireturn, 1) := by decide +kernel
theorem d_Si_judge_38 : decode b_Si_judge 38 = .ok (.aload_n 0, 1) := by decide +kernel
theorem d_Si_judge_39 : decode b_Si_judge 39 = .ok (.getfield 44, 3) := by decide +kernel
theorem d_Si_judge_42 : decode b_Si_judge 42 = .ok (.aload_n 1, 1) := by decide +kernel
theorem d_Si_judge_43 : decode b_Si_judge 43 = .ok (.invokevirtual 119, 3) := by decide +kernel
theorem d_Si_judge_46 : decode b_Si_judge 46 = .ok (.ifCond .ne 5, 3) := by decide +kernel
theorem d_Si_judge_49 : decode b_Si_judge 49 = .ok (.iconst 2, 1) := by decide +kernel
theorem d_Si_judge_50 : decode b_Si_judge 50 = .ok (.ireturn, 1) := by decide +kernel
theorem d_Si_judge_51 : decode b_Si_judge 51 = .ok (.aload_n 0, 1) := by decide +kernel
theorem d_Si_judge_52 : decode b_Si_judge 52 = .ok (.aload_n 1, 1) := by decide +kernel
theorem d_Si_judge_53 : decode b_Si_judge 53 = .ok (.aload_n 2, 1) := by decide +kernel
theorem d_Si_judge_54 : decode b_Si_judge 54 = .ok (.invokevirtual 107, 3) := by decide +kernel
theorem d_Si_judge_57 : decode b_Si_judge 57 = .ok (.aload_n 0, 1) := by decide +kernel
theorem d_Si_judge_58 : decode b_Si_judge 58 = .ok (.getfield 21, 3) := by decide +kernel
theorem d_Si_judge_61 : decode b_Si_judge 61 = .ok (.aload_n 0, 1) := by decide +kernel
theorem d_Si_judge_62 : decode b_Si_judge 62 = .ok (.getfield 32, 3) := by decide +kernel
theorem d_Si_judge_65 : decode b_Si_judge 65 = .ok (.aload_n 0, 1) := by decide +kernel
theorem d_Si_judge_66 : decode b_Si_judge 66 = .ok (.getfield 25, 3) := by decide +kernel
theorem d_Si_judge_69 : decode b_Si_judge 69 = .ok (.invokevirtual 122, 3) := by decide +kernel
theorem d_Si_judge_72 : decode b_Si_judge 72 = .ok (.aload_n 0, 1) := by decide +kernel
theorem d_Si_judge_73 : decode b_Si_judge 73 = .ok (.getfield 44, 3) := by decide +kernel
theorem d_Si_judge_76 : decode b_Si_judge 76 = .ok (.aload_n 0, 1) := by decide +kernel
theorem d_Si_judge_77 : decode b_Si_judge 77 = .ok (.getfield 35, 3) := by decide +kernel
theorem d_Si_judge_80 : decode b_Si_judge 80 = .ok (.aload_n 0, 1) := by decide +kernel
theorem d_Si_judge_81 : decode b_Si_judge 81 = .ok (.getfield 32, 3) := by decide +kernel
theorem d_Si_judge_84 : decode b_Si_judge 84 = .ok (.invokevirtual 125, 3) := by decide +kernel
theorem d_Si_judge_87 : decode b_Si_judge 87 = .ok (.aload_n 0, 1) := by decide +kernel
theorem d_Si_judge_88 : decode b_Si_judge 88 = .ok (.getfield 44, 3) := by decide +kernel
theorem d_Si_judge_91 : decode b_Si_judge 91 = .ok (.aload_n 0, 1) := by decide +kernel
theorem d_Si_judge_92 : decode b_Si_judge 92 = .ok (.getfield 41, 3) := by decide +kernel
theorem d_Si_judge_95 : decode b_Si_judge 95 = .ok (.invokevirtual 91, 3) := by decide +kernel
theorem d_Si_judge_98 : decode b_Si_judge 98 = .ok (.aload_n 0, 1) := by decide +kernel
theorem d_Si_judge_99 : decode b_Si_judge 99 = .ok (.getfield 41, 3) := by decide +kernel
theorem d_Si_judge_102 : decode b_Si_judge 102 = .ok (.aload_n 0, 1) := by decide +kernel
theorem d_Si_judge_103 : decode b_Si_judge 103 = .ok (.getfield 38, 3) := by decide +kernel
theorem d_Si_judge_106 : decode b_Si_judge 106 = .ok (.invokestatic 128, 3) := by decide +kernel
theorem d_Si_judge_109 : decode b_Si_judge 109 = .ok (.ifCond .eq 7, 3) := by decide +kernel
theorem d_Si_judge_112 : decode b_Si_judge 112 = .ok (.iconst 0, 1) := by decide +kernel
theorem d_Si_judge_113 : decode b_Si_judge 113 = .ok (.goto 4, 3) := by decide +kernel
theorem d_Si_judge_116 : decode b_Si_judge 116 = .ok (.iconst 3, 1) := by decide +kernel
theorem d_Si_judge_117 : decode b_Si_judge 117 = .ok (.ireturn, 1) := by decide +kernel
