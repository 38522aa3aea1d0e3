theorem d_Ed_addUp_0 : decode b_Ed_addUp 0 = .ok (.aload_n 0, 1) := by decide +kernel
theorem d_Ed_addUp_1 : decode b_Ed_addUp 1 = .ok (.getfield 12, 3) := by decide +kernel
theorem d_Ed_addUp_4 : decode b_Ed_addUp 4 = .ok (.invokevirtual 137, 3) := by decide +kernel
theorem d_Ed_addUp_7 : decode b_Ed_addUp 7 = .ok (.bipush 63, 2) := by decide +kernel
theorem d_Ed_addUp_9 : decode b_Ed_addUp 9 = .ok (.istore_n 3, 1) := by decide +kernel
theorem d_Ed_addUp_10 : decode b_Ed_addUp 10 = .ok (.iload_n 3, 1) := by decide +kernel
theorem d_Ed_addUp_11 : decode b_Ed_addUp 11 = .ok (.ifCond .lt 95, 3) := by decide +kernel
theorem d_Ed_addUp_14 : decode b_Ed_addUp 14 = .ok (.aload_n 0, 1) := by decide +kernel
theorem d_Ed_addUp_15 : decode b_Ed_addUp 15 = .ok (.aload_n 0, 1) := by decide +kernel
theorem d_Ed_addUp_16 : decode b_Ed_addUp 16 = .ok (.getfield 12, 3) := by decide +kernel
theorem d_Ed_addUp_19 : decode b_Ed_addUp 19 = .ok (.invokevirtual 140, 3) := by decide +kernel
theorem d_Ed_addUp_22 : decode b_Ed_addUp 22 = .ok (.aload_n 0, 1) := by decide +kernel
theorem d_Ed_addUp_23 : decode b_Ed_addUp 23 = .ok (.aload_n 0, 1) := by decide +kernel
theorem d_Ed_addUp_24 : decode b_Ed_addUp 24 = .ok (.getfield 12, 3) := by decide +kernel
theorem d_Ed_addUp_27 : decode b_Ed_addUp 27 = .ok (.invokevirtual 140, 3) := by decide +kernel
theorem d_Ed_addUp_30 : decode b_Ed_addUp 30 = .ok (.aload_n 0, 1) := by decide +kernel
theorem d_Ed_addUp_31 : decode b_Ed_addUp 31 = .ok (.aload_n 0, 1) := by decide +kernel
theorem d_Ed_addUp_32 : decode b_Ed_addUp 32 = .ok (.getfield 12, 3) := by decide +kernel
theorem d_Ed_addUp_35 : decode b_Ed_addUp 35 = .ok (.invokevirtual 140, 3) := by decide +kernel
theorem d_Ed_addUp_38 : decode b_Ed_addUp 38 = .ok (.aload_n 0, 1) := by decide +kernel
theorem d_Ed_addUp_39 : decode b_Ed_addUp 39 = .ok (.aload_n 0, 1) := by decide +kernel
theorem d_Ed_addUp_40 : decode b_Ed_addUp 40 = .ok (.getfield 12, 3) := by decide +kernel
theorem d_Ed_addUp_43 : decode b_Ed_addUp 43 = .ok (.invokevirtual 140, 3) := by decide +kernel
theorem d_Ed_addUp_46 : decode b_Ed_addUp 46 = .ok (.aload_n 1, 1) := by decide +kernel
theorem d_Ed_addUp_47 : decode b_Ed_addUp 47 = .ok (.iload_n 3, 1) := by decide +kernel
theorem d_Ed_addUp_48 : decode b_Ed_addUp 48 = .ok (.invokestatic 143, 3) := by decide +kernel
theorem d_Ed_addUp_51 : decode b_Ed_addUp 51 = .ok (.istore 4, 2) := by decide +kernel
theorem d_Ed_addUp_53 : decode b_Ed_addUp 53 = .ok (.iload 4, 2) := by decide +kernel
theorem d_Ed_addUp_55 : decode b_Ed_addUp 55 = .ok (.ifCond .eq 18, 3) := by decide +kernel
theorem d_Ed_addUp_58 : decode b_Ed_addUp 58 = .ok (.aload_n 0, 1) := by decide +kernel
theorem d_Ed_addUp_59 : decode b_Ed_addUp 59 = .ok (.aload_n 0, 1) := by decide +kernel
theorem d_Ed_addUp_60 : decode b_Ed_addUp 60 = .ok (.getfield 12, 3) := by decide +kernel
theorem d_Ed_addUp_63 : decode b_Ed_addUp 63 = .ok (.aload_n 0, 1) := by decide +kernel
theorem d_Ed_addUp_64 : decode b_Ed_addUp 64 = .ok (.getfield 23, 3) := by decide +kernel
theorem d_Ed_addUp_67 : decode b_Ed_addUp 67 = .ok (.iload 4, 2) := by decide +kernel
theorem d_Ed_addUp_69 : decode b_Ed_addUp 69 = .ok (.aaload, 1) := by decide +kernel
theorem d_Ed_addUp_70 : decode b_Ed_addUp 70 = .ok (.invokevirtual 87, 3) := by decide +kernel
theorem d_Ed_addUp_73 : decode b_Ed_addUp 73 = .ok (.aload_n 2, 1) := by decide +kernel
theorem d_Ed_addUp_74 : decode b_Ed_addUp 74 = .ok (.iload_n 3, 1) := by decide +kernel
theorem d_Ed_addUp_75 : decode b_Ed_addUp 75 = .ok (.invokestatic 143, 3) := by decide +kernel
theorem d_Ed_addUp_78 : decode b_Ed_addUp 78 = .ok (.istore 5, 2) := by decide +kernel
theorem d_Ed_addUp_80 : decode b_Ed_addUp 80 = .ok (.iload 5, 2) := by decide +kernel
theorem d_Ed_addUp_82 : decode b_Ed_addUp 82 = .ok (.ifCond .eq 18, 3) := by decide +kernel
theorem d_Ed_addUp_85 : decode b_Ed_addUp 85 = .ok (.aload_n 0, 1) := by decide +kernel
theorem d_Ed_addUp_86 : decode b_Ed_addUp 86 = .ok (.aload_n 0, 1) := by decide +kernel
theorem d_Ed_addUp_87 : decode b_Ed_addUp 87 = .ok (.getfield 12, 3) := by decide +kernel
theorem d_Ed_addUp_90 : decode b_Ed_addUp 90 = .ok (.aload_n 0, 1) := by decide +kernel
theorem d_Ed_addUp_91 : decode b_Ed_addUp 91 = .ok (.getfield 27, 3) := by decide +kernel
theorem d_Ed_addUp_94 : decode b_Ed_addUp 94 = .ok (.iload 5, 2) := by decide +kernel
theorem d_Ed_addUp_96 : decode b_Ed_addUp 96 = .ok (.aaload, 1) := by decide +kernel
theorem d_Ed_addUp_97 : decode b_Ed_addUp 97 = .ok (.invokevirtual 87, 3) := by decide +kernel
theorem d_Ed_addUp_100 : decode b_Ed_addUp 100 = .ok (.iinc 3 (-1), 3) := by decide +kernel
theorem d_Ed_addUp_103 : decode b_Ed_addUp 103 = .ok (.goto (-93), 3) := by decide +kernel
theorem d_Ed_addUp_106 : decode b_Ed_addUp 106 = .ok (.return_, 1) := by decide +kernel
theorem d_Ed_multiplyBase_0 : decode b_Ed_multiplyBase 0 = .ok (.aload_n 0, 1) := by decide +kernel
theorem d_Ed_multiplyBase_1 : decode b_Ed_multiplyBase 1 = .ok (.aload_n 1, 1) := by decide +kernel
theorem d_Ed_multiplyBase_2 : decode b_Ed_multiplyBase 2 = .ok (.aload_n 0, 1) := by decide +kernel
theorem d_Ed_multiplyBase_3 : decode b_Ed_multiplyBase 3 = .ok (.getfield 30, 3) := by decide +kernel
theorem d_Ed_multiplyBase_6 : decode b_Ed_multiplyBase 6 = .ok (.invokevirtual 130, 3) := by decide +kernel
theorem d_Ed_multiplyBase_9 : decode b_Ed_multiplyBase 9 = .ok (.return_, 1) := by decide +kernel
theorem d_Ed_subtractFromBase_0 : decode b_Ed_subtractFromBase 0 = .ok (.aload_n 0, 1) := by decide +kernel
theorem d_Ed_subtractFromBase_1 : decode b_Ed_subtractFromBase 1 = .ok (.getfield 18, 3) := by decide +kernel
theorem d_Ed_subtractFromBase_4 : decode b_Ed_subtractFromBase 4 = .ok (.invokevirtual 134, 3) := by decide +kernel
theorem d_Ed_subtractFromBase_7 : decode b_Ed_subtractFromBase 7 = .ok (.aload_n 0, 1) := by decide +kernel
theorem d_Ed_subtractFromBase_8 : decode b_Ed_subtractFromBase 8 = .ok (.aload_n 0, 1) := by decide +kernel
theorem d_Ed_subtractFromBase_9 : decode b_Ed_subtractFromBase 9 = .ok (.getfield 27, 3) := by decide +kernel
theorem d_Ed_subtractFromBase_12 : decode b_Ed_subtractFromBase 12 = .ok (.aload_n 0, 1) := by decide +kernel
theorem d_Ed_subtractFromBase_13 : decode b_Ed_subtractFromBase 13 = .ok (.getfield 18, 3) := by decide +kernel
theorem d_Ed_subtractFromBase_16 : decode b_Ed_subtractFromBase 16 = .ok (.invokevirtual 79, 3) := by decide +kernel
theorem d_Ed_subtractFromBase_19 : decode b_Ed_subtractFromBase 19 = .ok (.aload_n 0, 1) := by decide +kernel
theorem d_Ed_subtractFromBase_20 : decode b_Ed_subtractFromBase 20 = .ok (.aload_n 1, 1) := by decide +kernel
theorem d_Ed_subtractFromBase_21 : decode b_Ed_subtractFromBase 21 = .ok (.aload_n 2, 1) := by decide +kernel
theorem d_Ed_subtractFromBase_22 : decode b_Ed_subtractFromBase 22 = .ok (.invokevirtual 130, 3) := by decide +kernel
theorem d_Ed_subtractFromBase_25 : decode b_Ed_subtractFromBase 25 = .ok (.return_, 1) := by decide +kernel
theorem d_Ed_writeSum_0 : decode b_Ed_writeSum 0 = .ok (.aload_n 0, 1) := by decide +kernel
theorem d_Ed_writeSum_1 : decode b_Ed_writeSum 1 = .ok (.getfield 64, 3) := by decide +kernel
theorem d_Ed_writeSum_4 : decode b_Ed_writeSum 4 = .ok (.aload_n 0, 1) := by decide +kernel
theorem d_Ed_writeSum_5 : decode b_Ed_writeSum 5 = .ok (.getfield 39, 3) := by decide +kernel
theorem d_Ed_writeSum_8 : decode b_Ed_writeSum 8 = .ok (.aload_n 0, 1) := by decide +kernel
theorem d_Ed_writeSum_9 : decode b_Ed_writeSum 9 = .ok (.getfield 12, 3) := by decide +kernel
theorem d_Ed_writeSum_12 : decode b_Ed_writeSum 12 = .ok (.getfield 118, 3) := by decide +kernel
theorem d_Ed_writeSum_15 : decode b_Ed_writeSum 15 = .ok (.invokevirtual 147, 3) := by decide +kernel
theorem d_Ed_writeSum_18 : decode b_Ed_writeSum 18 = .ok (.aload_n 0, 1) := by decide +kernel
theorem d_Ed_writeSum_19 : decode b_Ed_writeSum 19 = .ok (.getfield 43, 3) := by decide +kernel
theorem d_Ed_writeSum_22 : decode b_Ed_writeSum 22 = .ok (.aload_n 0, 1) := by decide +kernel
theorem d_Ed_writeSum_23 : decode b_Ed_writeSum 23 = .ok (.getfield 12, 3) := by decide +kernel
theorem d_Ed_writeSum_26 : decode b_Ed_writeSum 26 = .ok (.getfield 94, 3) := by decide +kernel
theorem d_Ed_writeSum_29 : decode b_Ed_writeSum 29 = .ok (.aload_n 0, 1) := by decide +kernel
theorem d_Ed_writeSum_30 : decode b_Ed_writeSum 30 = .ok (.getfield 39, 3) := by decide +kernel
theorem d_Ed_writeSum_33 : decode b_Ed_writeSum 33 = .ok (.invokestatic 104, 3) := by decide +kernel
theorem d_Ed_writeSum_36 : decode b_Ed_writeSum 36 = .ok (.aload_n 0, 1) := by decide +kernel
theorem d_Ed_writeSum_37 : decode b_Ed_writeSum 37 = .ok (.getfield 46, 3) := by decide +kernel
theorem d_Ed_writeSum_40 : decode b_Ed_writeSum 40 = .ok (.aload_n 0, 1) := by decide +kernel
theorem d_Ed_writeSum_41 : decode b_Ed_writeSum 41 = .ok (.getfield 12, 3) := by decide +kernel
theorem d_Ed_writeSum_44 : decode b_Ed_writeSum 44 = .ok (.getfield 91, 3) := by decide +kernel
theorem d_Ed_writeSum_47 : decode b_Ed_writeSum 47 = .ok (.aload_n 0, 1) := by decide +kernel
theorem d_Ed_writeSum_48 : decode b_Ed_writeSum 48 = .ok (.getfield 39, 3) := by decide +kernel
theorem d_Ed_writeSum_51 : decode b_Ed_writeSum 51 = .ok (.invokestatic 104, 3) := by decide +kernel
theorem d_Ed_writeSum_54 : decode b_Ed_writeSum 54 = .ok (.aload_n 0, 1) := by decide +kernel
theorem d_Ed_writeSum_55 : decode b_Ed_writeSum 55 = .ok (.getfield 64, 3) := by decide +kernel
theorem d_Ed_writeSum_58 : decode b_Ed_writeSum 58 = .ok (.aload_n 0, 1) := by decide +kernel
theorem d_Ed_writeSum_59 : decode b_Ed_writeSum 59 = .ok (.getfield 34, 3) := by decide +kernel
theorem d_Ed_writeSum_62 : decode b_Ed_writeSum 62 = .ok (.aload_n 0, 1) := by decide +kernel
theorem d_Ed_writeSum_63 : decode b_Ed_writeSum 63 = .ok (.getfield 43, 3) := by decide +kernel
theorem d_Ed_writeSum_66 : decode b_Ed_writeSum 66 = .ok (.invokevirtual 150, 3) := by decide +kernel
theorem d_Ed_writeSum_69 : decode b_Ed_writeSum 69 = .ok (.aload_n 0, 1) := by decide +kernel
theorem d_Ed_writeSum_70 : decode b_Ed_writeSum 70 = .ok (.getfield 64, 3) := by decide +kernel
theorem d_Ed_writeSum_73 : decode b_Ed_writeSum 73 = .ok (.aload_n 1, 1) := by decide +kernel
theorem d_Ed_writeSum_74 : decode b_Ed_writeSum 74 = .ok (.aload_n 0, 1) := by decide +kernel
theorem d_Ed_writeSum_75 : decode b_Ed_writeSum 75 = .ok (.getfield 46, 3) := by decide +kernel
theorem d_Ed_writeSum_78 : decode b_Ed_writeSum 78 = .ok (.invokevirtual 150, 3) := by decide +kernel
theorem d_Ed_writeSum_81 : decode b_Ed_writeSum 81 = .ok (.aload_n 1, 1) := by decide +kernel
theorem d_Ed_writeSum_82 : decode b_Ed_writeSum 82 = .ok (.bipush 31, 2) := by decide +kernel
theorem d_Ed_writeSum_84 : decode b_Ed_writeSum 84 = .ok (.dup2, 1) := by decide +kernel
theorem d_Ed_writeSum_85 : decode b_Ed_writeSum 85 = .ok (.baload, 1) := by decide +kernel
theorem d_Ed_writeSum_86 : decode b_Ed_writeSum 86 = .ok (.aload_n 0, 1) := by decide +kernel
theorem d_Ed_writeSum_87 : decode b_Ed_writeSum 87 = .ok (.getfield 34, 3) := by decide +kernel
theorem d_Ed_writeSum_90 : decode b_Ed_writeSum 90 = .ok (.iconst 0, 1) := by decide +kernel
theorem d_Ed_writeSum_91 : decode b_Ed_writeSum 91 = .ok (.baload, 1) := by decide +kernel
theorem d_Ed_writeSum_92 : decode b_Ed_writeSum 92 = .ok (.bipush 7, 2) := by decide +kernel
theorem d_Ed_writeSum_94 : decode b_Ed_writeSum 94 = .ok (.ishl, 1) := by decide +kernel
theorem d_Ed_writeSum_95 : decode b_Ed_writeSum 95 = .ok (.i2b, 1) := by decide +kernel
theorem d_Ed_writeSum_96 : decode b_Ed_writeSum 96 = .ok (.ior, 1) := by decide +kernel
theorem d_Ed_writeSum_97 : decode b_Ed_writeSum 97 = .ok (.i2b, 1) := by decide +kernel
theorem d_Ed_writeSum_98 : decode b_Ed_writeSum 98 = .ok (.bastore, 1) := by decide +kernel
theorem d_Ed_writeSum_99 : decode b_Ed_writeSum 99 = .ok (.return_, 1) := by decide +kernel
theorem d_Ed_writeFoundX_0 : decode b_Ed_writeFoundX 0 = .ok (.aload_n 0, 1) := by decide +kernel
theorem d_Ed_writeFoundX_1 : decode b_Ed_writeFoundX 1 = .ok (.getfield 64, 3) := by decide +kernel
theorem d_Ed_writeFoundX_4 : decode b_Ed_writeFoundX 4 = .ok (.aload_n 1, 1) := by decide +kernel
theorem d_Ed_writeFoundX_5 : decode b_Ed_writeFoundX 5 = .ok (.aload_n 0, 1) := by decide +kernel
theorem d_Ed_writeFoundX_6 : decode b_Ed_writeFoundX 6 = .ok (.getfield 18, 3) := by decide +kernel
theorem d_Ed_writeFoundX_9 : decode b_Ed_writeFoundX 9 = .ok (.getfield 94, 3) := by decide +kernel
theorem d_Ed_writeFoundX_12 : decode b_Ed_writeFoundX 12 = .ok (.invokevirtual 150, 3) := by decide +kernel
theorem d_Ed_writeFoundX_15 : decode b_Ed_writeFoundX 15 = .ok (.return_, 1) := by decide +kernel
theorem d_Ed_isBelowPrime_0 : decode b_Ed_isBelowPrime 0 = .ok (.aload_n 0, 1) := by decide +kernel
theorem d_Ed_isBelowPrime_1 : decode b_Ed_isBelowPrime 1 = .ok (.getfield 64, 3) := by decide +kernel
theorem d_Ed_isBelowPrime_4 : decode b_Ed_isBelowPrime 4 = .ok (.aload_n 0, 1) := by decide +kernel
theorem d_Ed_isBelowPrime_5 : decode b_Ed_isBelowPrime 5 = .ok (.getfield 34, 3) := by decide +kernel
theorem d_Ed_isBelowPrime_8 : decode b_Ed_isBelowPrime 8 = .ok (.aload_n 0, 1) := by decide +kernel
theorem d_Ed_isBelowPrime_9 : decode b_Ed_isBelowPrime 9 = .ok (.getfield 58, 3) := by decide +kernel
theorem d_Ed_isBelowPrime_12 : decode b_Ed_isBelowPrime 12 = .ok (.invokevirtual 150, 3) := by decide +kernel
theorem d_Ed_isBelowPrime_15 : decode b_Ed_isBelowPrime 15 = .ok (.aload_n 0, 1) := by decide +kernel
theorem d_Ed_isBelowPrime_16 : decode b_Ed_isBelowPrime 16 = .ok (.getfield 34, 3) := by decide +kernel
theorem d_Ed_isBelowPrime_19 : decode b_Ed_isBelowPrime 19 = .ok (.bipush 31, 2) := by decide +kernel
theorem d_Ed_isBelowPrime_21 : decode b_Ed_isBelowPrime 21 = .ok (.dup2, 1) := by decide +kernel
theorem d_Ed_isBelowPrime_22 : decode b_Ed_isBelowPrime 22 = .ok (.baload, 1) := by decide +kernel
theorem d_Ed_isBelowPrime_23 : decode b_Ed_isBelowPrime 23 = .ok (.aload_n 1, 1) := by decide +kernel
theorem d_Ed_isBelowPrime_24 : decode b_Ed_isBelowPrime 24 = .ok (.bipush 31, 2) := by decide +kernel
theorem d_Ed_isBelowPrime_26 : decode b_Ed_isBelowPrime 26 = .ok (.baload, 1) := by decide +kernel
theorem d_Ed_isBelowPrime_27 : decode b_Ed_isBelowPrime 27 = .ok (.sipush 128, 3) := by decide +kernel
theorem d_Ed_isBelowPrime_30 : decode b_Ed_isBelowPrime 30 = .ok (.iand, 1) := by decide +kernel
theorem d_Ed_isBelowPrime_31 : decode b_Ed_isBelowPrime 31 = .ok (.i2b, 1) := by decide +kernel
theorem d_Ed_isBelowPrime_32 : decode b_Ed_isBelowPrime 32 = .ok (.ior, 1) := by decide +kernel
theorem d_Ed_isBelowPrime_33 : decode b_Ed_isBelowPrime 33 = .ok (.i2b, 1) := by decide +kernel
theorem d_Ed_isBelowPrime_34 : decode b_Ed_isBelowPrime 34 = .ok (.bastore, 1) := by decide +kernel
theorem d_Ed_isBelowPrime_35 : decode b_Ed_isBelowPrime 35 = .ok (.aload_n 1, 1) := by decide +kernel
theorem d_Ed_isBelowPrime_36 : decode b_Ed_isBelowPrime 36 = .ok (.aload_n 0, 1) := by decide +kernel
theorem d_Ed_isBelowPrime_37 : decode b_Ed_isBelowPrime 37 = .ok (.getfield 34, 3) := by decide +kernel
theorem d_Ed_isBelowPrime_40 : decode b_Ed_isBelowPrime 40 = .ok (.invokestatic 176, 3) := by decide +kernel
theorem d_Ed_isBelowPrime_43 : decode b_Ed_isBelowPrime 43 = .ok (.ireturn, 1) := by decide +kernel
theorem d_Ed_setRatio_0 : decode b_Ed_setRatio 0 = .ok (.aload_n 0, 1) := by decide +kernel
theorem d_Ed_setRatio_1 : decode b_Ed_setRatio 1 = .ok (.getfield 49, 3) := by decide +kernel
theorem d_Ed_setRatio_4 : decode b_Ed_setRatio 4 = .ok (.lconst 1, 1) := by decide +kernel
theorem d_Ed_setRatio_5 : decode b_Ed_setRatio 5 = .ok (.invokestatic 180, 3) := by decide +kernel
theorem d_Ed_setRatio_8 : decode b_Ed_setRatio 8 = .ok (.aload_n 0, 1) := by decide +kernel
theorem d_Ed_setRatio_9 : decode b_Ed_setRatio 9 = .ok (.getfield 46, 3) := by decide +kernel
theorem d_Ed_setRatio_12 : decode b_Ed_setRatio 12 = .ok (.aload_n 0, 1) := by decide +kernel
theorem d_Ed_setRatio_13 : decode b_Ed_setRatio 13 = .ok (.getfield 58, 3) := by decide +kernel
theorem d_Ed_setRatio_16 : decode b_Ed_setRatio 16 = .ok (.invokestatic 127, 3) := by decide +kernel
theorem d_Ed_setRatio_19 : decode b_Ed_setRatio 19 = .ok (.aload_n 0, 1) := by decide +kernel
theorem d_Ed_setRatio_20 : decode b_Ed_setRatio 20 = .ok (.getfield 43, 3) := by decide +kernel
theorem d_Ed_setRatio_23 : decode b_Ed_setRatio 23 = .ok (.aload_n 0, 1) := by decide +kernel
theorem d_Ed_setRatio_24 : decode b_Ed_setRatio 24 = .ok (.getfield 46, 3) := by decide +kernel
theorem d_Ed_setRatio_27 : decode b_Ed_setRatio 27 = .ok (.getstatic 183, 3) := by decide +kernel
theorem d_Ed_setRatio_30 : decode b_Ed_setRatio 30 = .ok (.invokestatic 104, 3) := by decide +kernel
theorem d_Ed_setRatio_33 : decode b_Ed_setRatio 33 = .ok (.aload_n 0, 1) := by decide +kernel
theorem d_Ed_setRatio_34 : decode b_Ed_setRatio 34 = .ok (.getfield 39, 3) := by decide +kernel
theorem d_Ed_setRatio_37 : decode b_Ed_setRatio 37 = .ok (.aload_n 0, 1) := by decide +kernel
theorem d_Ed_setRatio_38 : decode b_Ed_setRatio 38 = .ok (.getfield 46, 3) := by decide +kernel
theorem d_Ed_setRatio_41 : decode b_Ed_setRatio 41 = .ok (.aload_n 0, 1) := by decide +kernel
theorem d_Ed_setRatio_42 : decode b_Ed_setRatio 42 = .ok (.getfield 49, 3) := by decide +kernel
theorem d_Ed_setRatio_45 : decode b_Ed_setRatio 45 = .ok (.invokestatic 97, 3) := by decide +kernel
theorem d_Ed_setRatio_48 : decode b_Ed_setRatio 48 = .ok (.aload_n 0, 1) := by decide +kernel
theorem d_Ed_setRatio_49 : decode b_Ed_setRatio 49 = .ok (.getfield 43, 3) := by decide +kernel
theorem d_Ed_setRatio_52 : decode b_Ed_setRatio 52 = .ok (.aload_n 0, 1) := by decide +kernel
theorem d_Ed_setRatio_53 : decode b_Ed_setRatio 53 = .ok (.getfield 43, 3) := by decide +kernel
theorem d_Ed_setRatio_56 : decode b_Ed_setRatio 56 = .ok (.aload_n 0, 1) := by decide +kernel
theorem d_Ed_setRatio_57 : decode b_Ed_setRatio 57 = .ok (.getfield 49, 3) := by decide +kernel
theorem d_Ed_setRatio_60 : decode b_Ed_setRatio 60 = .ok (.invokestatic 107, 3) := by decide +kernel
theorem d_Ed_setRatio_63 : decode b_Ed_setRatio 63 = .ok (.aload_n 0, 1) := by decide +kernel
theorem d_Ed_setRatio_64 : decode b_Ed_setRatio 64 = .ok (.getfield 46, 3) := by decide +kernel
theorem d_Ed_setRatio_67 : decode b_Ed_setRatio 67 = .ok (.aload_n 0, 1) := by decide +kernel
theorem d_Ed_setRatio_68 : decode b_Ed_setRatio 68 = .ok (.getfield 43, 3) := by decide +kernel
theorem d_Ed_setRatio_71 : decode b_Ed_setRatio 71 = .ok (.invokestatic 127, 3) := by decide +kernel
theorem d_Ed_setRatio_74 : decode b_Ed_setRatio 74 = .ok (.aload_n 0, 1) := by decide +kernel
theorem d_Ed_setRatio_75 : decode b_Ed_setRatio 75 = .ok (.getfield 46, 3) := by decide +kernel
theorem d_Ed_setRatio_78 : decode b_Ed_setRatio 78 = .ok (.aload_n 0, 1) := by decide +kernel
theorem d_Ed_setRatio_79 : decode b_Ed_setRatio 79 = .ok (.getfield 46, 3) := by decide +kernel
theorem d_Ed_setRatio_82 : decode b_Ed_setRatio 82 = .ok (.aload_n 0, 1) := by decide +kernel
theorem d_Ed_setRatio_83 : decode b_Ed_setRatio 83 = .ok (.getfield 43, 3) := by decide +kernel
theorem d_Ed_setRatio_86 : decode b_Ed_setRatio 86 = .ok (.invokestatic 104, 3) := by decide +kernel
theorem d_Ed_setRatio_89 : decode b_Ed_setRatio 89 = .ok (.aload_n 0, 1) := by decide +kernel
theorem d_Ed_setRatio_90 : decode b_Ed_setRatio 90 = .ok (.getfield 49, 3) := by decide +kernel
theorem d_Ed_setRatio_93 : decode b_Ed_setRatio 93 = .ok (.aload_n 0, 1) := by decide +kernel
theorem d_Ed_setRatio_94 : decode b_Ed_setRatio 94 = .ok (.getfield 46, 3) := by decide +kernel
theorem d_Ed_setRatio_97 : decode b_Ed_setRatio 97 = .ok (.invokestatic 127, 3) := by decide +kernel
theorem d_Ed_setRatio_100 : decode b_Ed_setRatio 100 = .ok (.aload_n 0, 1) := by decide +kernel
theorem d_Ed_setRatio_101 : decode b_Ed_setRatio 101 = .ok (.getfield 49, 3) := by decide +kernel
theorem d_Ed_setRatio_104 : decode b_Ed_setRatio 104 = .ok (.aload_n 0, 1) := by decide +kernel
theorem d_Ed_setRatio_105 : decode b_Ed_setRatio 105 = .ok (.getfield 49, 3) := by decide +kernel
theorem d_Ed_setRatio_108 : decode b_Ed_setRatio 108 = .ok (.aload_n 0, 1) := by decide +kernel
theorem d_Ed_setRatio_109 : decode b_Ed_setRatio 109 = .ok (.getfield 43, 3) := by decide +kernel
theorem d_Ed_setRatio_112 : decode b_Ed_setRatio 112 = .ok (.invokestatic 104, 3) := by decide +kernel
theorem d_Ed_setRatio_115 : decode b_Ed_setRatio 115 = .ok (.aload_n 0, 1) := by decide +kernel
theorem d_Ed_setRatio_116 : decode b_Ed_setRatio 116 = .ok (.getfield 49, 3) := by decide +kernel
theorem d_Ed_setRatio_119 : decode b_Ed_setRatio 119 = .ok (.aload_n 0, 1) := by decide +kernel
theorem d_Ed_setRatio_120 : decode b_Ed_setRatio 120 = .ok (.getfield 49, 3) := by decide +kernel
theorem d_Ed_setRatio_123 : decode b_Ed_setRatio 123 = .ok (.aload_n 0, 1) := by decide +kernel
theorem d_Ed_setRatio_124 : decode b_Ed_setRatio 124 = .ok (.getfield 39, 3) := by decide +kernel
theorem d_Ed_setRatio_127 : decode b_Ed_setRatio 127 = .ok (.invokestatic 104, 3) := by decide +kernel
theorem d_Ed_setRatio_130 : decode b_Ed_setRatio 130 = .ok (.return_, 1) := by decide +kernel
theorem d_Ed_isMultipleOfPrime_0 : decode b_Ed_isMultipleOfPrime 0 = .ok (.aload_n 0, 1) := by decide +kernel
theorem d_Ed_isMultipleOfPrime_1 : decode b_Ed_isMultipleOfPrime 1 = .ok (.getfield 64, 3) := by decide +kernel
theorem d_Ed_isMultipleOfPrime_4 : decode b_Ed_isMultipleOfPrime 4 = .ok (.aload_n 0, 1) := by decide +kernel
theorem d_Ed_isMultipleOfPrime_5 : decode b_Ed_isMultipleOfPrime 5 = .ok (.getfield 34, 3) := by decide +kernel
theorem d_Ed_isMultipleOfPrime_8 : decode b_Ed_isMultipleOfPrime 8 = .ok (.aload_n 1, 1) := by decide +kernel
theorem d_Ed_isMultipleOfPrime_9 : decode b_Ed_isMultipleOfPrime 9 = .ok (.invokevirtual 150, 3) := by decide +kernel
theorem d_Ed_isMultipleOfPrime_12 : decode b_Ed_isMultipleOfPrime 12 = .ok (.aload_n 0, 1) := by decide +kernel
theorem d_Ed_isMultipleOfPrime_13 : decode b_Ed_isMultipleOfPrime 13 = .ok (.getfield 34, 3) := by decide +kernel
theorem d_Ed_isMultipleOfPrime_16 : decode b_Ed_isMultipleOfPrime 16 = .ok (.invokestatic 193, 3) := by decide +kernel
theorem d_Ed_isMultipleOfPrime_19 : decode b_Ed_isMultipleOfPrime 19 = .ok (.ireturn, 1) := by decide +kernel
theorem d_Ed_mendRoot_0 : decode b_Ed_mendRoot 0 = .ok (.aload_n 0, 1) := by decide +kernel
theorem d_Ed_mendRoot_1 : decode b_Ed_mendRoot 1 = .ok (.getfield 46, 3) := by decide +kernel
theorem d_Ed_mendRoot_4 : decode b_Ed_mendRoot 4 = .ok (.aload_n 0, 1) := by decide +kernel
theorem d_Ed_mendRoot_5 : decode b_Ed_mendRoot 5 = .ok (.getfield 61, 3) := by decide +kernel
theorem d_Ed_mendRoot_8 : decode b_Ed_mendRoot 8 = .ok (.invokestatic 127, 3) := by decide +kernel
theorem d_Ed_mendRoot_11 : decode b_Ed_mendRoot 11 = .ok (.aload_n 0, 1) := by decide +kernel
theorem d_Ed_mendRoot_12 : decode b_Ed_mendRoot 12 = .ok (.getfield 46, 3) := by decide +kernel
theorem d_Ed_mendRoot_15 : decode b_Ed_mendRoot 15 = .ok (.aload_n 0, 1) := by decide +kernel
theorem d_Ed_mendRoot_16 : decode b_Ed_mendRoot 16 = .ok (.getfield 46, 3) := by decide +kernel
theorem d_Ed_mendRoot_19 : decode b_Ed_mendRoot 19 = .ok (.aload_n 0, 1) := by decide +kernel
theorem d_Ed_mendRoot_20 : decode b_Ed_mendRoot 20 = .ok (.getfield 43, 3) := by decide +kernel
theorem d_Ed_mendRoot_23 : decode b_Ed_mendRoot 23 = .ok (.invokestatic 104, 3) := by decide +kernel
theorem d_Ed_mendRoot_26 : decode b_Ed_mendRoot 26 = .ok (.aload_n 0, 1) := by decide +kernel
theorem d_Ed_mendRoot_27 : decode b_Ed_mendRoot 27 = .ok (.getfield 49, 3) := by decide +kernel
theorem d_Ed_mendRoot_30 : decode b_Ed_mendRoot 30 = .ok (.aload_n 0, 1) := by decide +kernel
theorem d_Ed_mendRoot_31 : decode b_Ed_mendRoot 31 = .ok (.getfield 46, 3) := by decide +kernel
theorem d_Ed_mendRoot_34 : decode b_Ed_mendRoot 34 = .ok (.aload_n 0, 1) := by decide +kernel
theorem d_Ed_mendRoot_35 : decode b_Ed_mendRoot 35 = .ok (.getfield 39, 3) := by decide +kernel
theorem d_Ed_mendRoot_38 : decode b_Ed_mendRoot 38 = .ok (.invokestatic 97, 3) := by decide +kernel
theorem d_Ed_mendRoot_41 : decode b_Ed_mendRoot 41 = .ok (.aload_n 0, 1) := by decide +kernel
theorem d_Ed_mendRoot_42 : decode b_Ed_mendRoot 42 = .ok (.aload_n 0, 1) := by decide +kernel
theorem d_Ed_mendRoot_43 : decode b_Ed_mendRoot 43 = .ok (.getfield 49, 3) := by decide +kernel
theorem d_Ed_mendRoot_46 : decode b_Ed_mendRoot 46 = .ok (.invokevirtual 186, 3) := by decide +kernel
theorem d_Ed_mendRoot_49 : decode b_Ed_mendRoot 49 = .ok (.ifCond .eq 5, 3) := by decide +kernel
theorem d_Ed_mendRoot_52 : decode b_Ed_mendRoot 52 = .ok (.iconst 1, 1) := by decide +kernel
theorem d_Ed_mendRoot_53 : decode b_Ed_mendRoot 53 = .ok (.ireturn, 1) := by decide +kernel
theorem d_Ed_mendRoot_54 : decode b_Ed_mendRoot 54 = .ok (.aload_n 0, 1) := by decide +kernel
theorem d_Ed_mendRoot_55 : decode b_Ed_mendRoot 55 = .ok (.getfield 49, 3) := by decide +kernel
theorem d_Ed_mendRoot_58 : decode b_Ed_mendRoot 58 = .ok (.aload_n 0, 1) := by decide +kernel
theorem d_Ed_mendRoot_59 : decode b_Ed_mendRoot 59 = .ok (.getfield 46, 3) := by decide +kernel
theorem d_Ed_mendRoot_62 : decode b_Ed_mendRoot 62 = .ok (.aload_n 0, 1) := by decide +kernel
theorem d_Ed_mendRoot_63 : decode b_Ed_mendRoot 63 = .ok (.getfield 39, 3) := by decide +kernel
theorem d_Ed_mendRoot_66 : decode b_Ed_mendRoot 66 = .ok (.invokestatic 107, 3) := by decide +kernel
theorem d_Ed_mendRoot_69 : decode b_Ed_mendRoot 69 = .ok (.aload_n 0, 1) := by decide +kernel
theorem d_Ed_mendRoot_70 : decode b_Ed_mendRoot 70 = .ok (.getfield 61, 3) := by decide +kernel
theorem d_Ed_mendRoot_73 : decode b_Ed_mendRoot 73 = .ok (.aload_n 0, 1) := by decide +kernel
theorem d_Ed_mendRoot_74 : decode b_Ed_mendRoot 74 = .ok (.getfield 61, 3) := by decide +kernel
theorem d_Ed_mendRoot_77 : decode b_Ed_mendRoot 77 = .ok (.getstatic 190, 3) := by decide +kernel
theorem d_Ed_mendRoot_80 : decode b_Ed_mendRoot 80 = .ok (.invokestatic 104, 3) := by decide +kernel
theorem d_Ed_mendRoot_83 : decode b_Ed_mendRoot 83 = .ok (.aload_n 0, 1) := by decide +kernel
theorem d_Ed_mendRoot_84 : decode b_Ed_mendRoot 84 = .ok (.aload_n 0, 1) := by decide +kernel
theorem d_Ed_mendRoot_85 : decode b_Ed_mendRoot 85 = .ok (.getfield 49, 3) := by decide +kernel
theorem d_Ed_mendRoot_88 : decode b_Ed_mendRoot 88 = .ok (.invokevirtual 186, 3) := by decide +kernel
theorem d_Ed_mendRoot_91 : decode b_Ed_mendRoot 91 = .ok (.ireturn, 1) := by decide +kernel
theorem d_Ed_takeSign_0 : decode b_Ed_takeSign 0 = .ok (.aload_n 0, 1) := by decide +kernel
theorem d_Ed_takeSign_1 : decode b_Ed_takeSign 1 = .ok (.getfield 64, 3) := by decide +kernel
theorem d_Ed_takeSign_4 : decode b_Ed_takeSign 4 = .ok (.aload_n 0, 1) := by decide +kernel
theorem d_Ed_takeSign_5 : decode b_Ed_takeSign 5 = .ok (.getfield 34, 3) := by decide +kernel
theorem d_Ed_takeSign_8 : decode b_Ed_takeSign 8 = .ok (.aload_n 0, 1) := by decide +kernel
theorem d_Ed_takeSign_9 : decode b_Ed_takeSign 9 = .ok (.getfield 61, 3) := by decide +kernel
theorem d_Ed_takeSign_12 : decode b_Ed_takeSign 12 = .ok (.invokevirtual 150, 3) := by decide +kernel
theorem d_Ed_takeSign_15 : decode b_Ed_takeSign 15 = .ok (.iload_n 1, 1) := by decide +kernel
theorem d_Ed_takeSign_16 : decode b_Ed_takeSign 16 = .ok (.iconst 1, 1) := by decide +kernel
theorem d_Ed_takeSign_17 : decode b_Ed_takeSign 17 = .ok (.if_icmp .ne 15, 3) := by decide +kernel
theorem d_Ed_takeSign_20 : decode b_Ed_takeSign 20 = .ok (.aload_n 0, 1) := by decide +kernel
theorem d_Ed_takeSign_21 : decode b_Ed_takeSign 21 = .ok (.getfield 34, 3) := by decide +kernel
theorem d_Ed_takeSign_24 : decode b_Ed_takeSign 24 = .ok (.invokestatic 193, 3) := by decide +kernel
theorem d_Ed_takeSign_27 : decode b_Ed_takeSign 27 = .ok (.ifCond .eq 5, 3) := by decide +kernel
theorem d_Ed_takeSign_30 : decode b_Ed_takeSign 30 = .ok (.iconst 0, 1) := by decide +kernel
theorem d_Ed_takeSign_31 : decode b_Ed_takeSign 31 = .ok (.ireturn, 1) := by decide +kernel
theorem d_Ed_takeSign_32 : decode b_Ed_takeSign 32 = .ok (.aload_n 0, 1) := by decide +kernel
theorem d_Ed_takeSign_33 : decode b_Ed_takeSign 33 = .ok (.getfield 34, 3) := by decide +kernel
theorem d_Ed_takeSign_36 : decode b_Ed_takeSign 36 = .ok (.iconst 0, 1) := by decide +kernel
theorem d_Ed_takeSign_37 : decode b_Ed_takeSign 37 = .ok (.baload, 1) := by decide +kernel
theorem d_Ed_takeSign_38 : decode b_Ed_takeSign 38 = .ok (.iconst 1, 1) := by decide +kernel
theorem d_Ed_takeSign_39 : decode b_Ed_takeSign 39 = .ok (.iand, 1) := by decide +kernel
theorem d_Ed_takeSign_40 : decode b_Ed_takeSign 40 = .ok (.iload_n 1, 1) := by decide +kernel
theorem d_Ed_takeSign_41 : decode b_Ed_takeSign 41 = .ok (.if_icmp .eq 14, 3) := by decide +kernel
theorem d_Ed_takeSign_44 : decode b_Ed_takeSign 44 = .ok (.aload_n 0, 1) := by decide +kernel
theorem d_Ed_takeSign_45 : decode b_Ed_takeSign 45 = .ok (.getfield 61, 3) := by decide +kernel
theorem d_Ed_takeSign_48 : decode b_Ed_takeSign 48 = .ok (.aload_n 0, 1) := by decide +kernel
theorem d_Ed_takeSign_49 : decode b_Ed_takeSign 49 = .ok (.getfield 61, 3) := by decide +kernel
theorem d_Ed_takeSign_52 : decode b_Ed_takeSign 52 = .ok (.invokestatic 196, 3) := by decide +kernel
theorem d_Ed_takeSign_55 : decode b_Ed_takeSign 55 = .ok (.iconst 1, 1) := by decide +kernel
theorem d_Ed_takeSign_56 : decode b_Ed_takeSign 56 = .ok (.ireturn, 1) := by decide +kernel
theorem d_Ed_find_0 : decode b_Ed_find 0 = .ok (.aload_n 0, 1) := by decide +kernel
theorem d_Ed_find_1 : decode b_Ed_find 1 = .ok (.getfield 58, 3) := by decide +kernel
theorem d_Ed_find_4 : decode b_Ed_find 4 = .ok (.aload_n 1, 1) := by decide +kernel
theorem d_Ed_find_5 : decode b_Ed_find 5 = .ok (.invokestatic 154, 3) := by decide +kernel
theorem d_Ed_find_8 : decode b_Ed_find 8 = .ok (.aload_n 0, 1) := by decide +kernel
theorem d_Ed_find_9 : decode b_Ed_find 9 = .ok (.aload_n 1, 1) := by decide +kernel
theorem d_Ed_find_10 : decode b_Ed_find 10 = .ok (.invokevirtual 158, 3) := by decide +kernel
theorem d_Ed_find_13 : decode b_Ed_find 13 = .ok (.ifCond .ne 5, 3) := by decide +kernel
theorem d_Ed_find_16 : decode b_Ed_find 16 = .ok (.iconst 0, 1) := by decide +kernel
theorem d_Ed_find_17 : decode b_Ed_find 17 = .ok (.ireturn, 1) := by decide +kernel
theorem d_Ed_find_18 : decode b_Ed_find 18 = .ok (.aload_n 0, 1) := by decide +kernel
theorem d_Ed_find_19 : decode b_Ed_find 19 = .ok (.invokevirtual 162, 3) := by decide +kernel
theorem d_Ed_find_22 : decode b_Ed_find 22 = .ok (.aload_n 0, 1) := by decide +kernel
theorem d_Ed_find_23 : decode b_Ed_find 23 = .ok (.getfield 64, 3) := by decide +kernel
theorem d_Ed_find_26 : decode b_Ed_find 26 = .ok (.aload_n 0, 1) := by decide +kernel
theorem d_Ed_find_27 : decode b_Ed_find 27 = .ok (.getfield 52, 3) := by decide +kernel
theorem d_Ed_find_30 : decode b_Ed_find 30 = .ok (.aload_n 0, 1) := by decide +kernel
theorem d_Ed_find_31 : decode b_Ed_find 31 = .ok (.getfield 49, 3) := by decide +kernel
theorem d_Ed_find_34 : decode b_Ed_find 34 = .ok (.invokevirtual 165, 3) := by decide +kernel
theorem d_Ed_find_37 : decode b_Ed_find 37 = .ok (.aload_n 0, 1) := by decide +kernel
theorem d_Ed_find_38 : decode b_Ed_find 38 = .ok (.getfield 61, 3) := by decide +kernel
theorem d_Ed_find_41 : decode b_Ed_find 41 = .ok (.aload_n 0, 1) := by decide +kernel
theorem d_Ed_find_42 : decode b_Ed_find 42 = .ok (.getfield 39, 3) := by decide +kernel
theorem d_Ed_find_45 : decode b_Ed_find 45 = .ok (.aload_n 0, 1) := by decide +kernel
theorem d_Ed_find_46 : decode b_Ed_find 46 = .ok (.getfield 46, 3) := by decide +kernel
theorem d_Ed_find_49 : decode b_Ed_find 49 = .ok (.invokestatic 104, 3) := by decide +kernel
theorem d_Ed_find_52 : decode b_Ed_find 52 = .ok (.aload_n 0, 1) := by decide +kernel
theorem d_Ed_find_53 : decode b_Ed_find 53 = .ok (.getfield 61, 3) := by decide +kernel
theorem d_Ed_find_56 : decode b_Ed_find 56 = .ok (.aload_n 0, 1) := by decide +kernel
theorem d_Ed_find_57 : decode b_Ed_find 57 = .ok (.getfield 61, 3) := by decide +kernel
theorem d_Ed_find_60 : decode b_Ed_find 60 = .ok (.aload_n 0, 1) := by decide +kernel
theorem d_Ed_find_61 : decode b_Ed_find 61 = .ok (.getfield 52, 3) := by decide +kernel
theorem d_Ed_find_64 : decode b_Ed_find 64 = .ok (.invokestatic 104, 3) := by decide +kernel
theorem d_Ed_find_67 : decode b_Ed_find 67 = .ok (.aload_n 0, 1) := by decide +kernel
theorem d_Ed_find_68 : decode b_Ed_find 68 = .ok (.invokevirtual 168, 3) := by decide +kernel
theorem d_Ed_find_71 : decode b_Ed_find 71 = .ok (.ifCond .eq 19, 3) := by decide +kernel
theorem d_Ed_find_74 : decode b_Ed_find 74 = .ok (.aload_n 0, 1) := by decide +kernel
theorem d_Ed_find_75 : decode b_Ed_find 75 = .ok (.aload_n 1, 1) := by decide +kernel
theorem d_Ed_find_76 : decode b_Ed_find 76 = .ok (.bipush 31, 2) := by decide +kernel
theorem d_Ed_find_78 : decode b_Ed_find 78 = .ok (.baload, 1) := by decide +kernel
theorem d_Ed_find_79 : decode b_Ed_find 79 = .ok (.bipush 7, 2) := by decide +kernel
theorem d_Ed_find_81 : decode b_Ed_find 81 = .ok (.ishr, 1) := by decide +kernel
theorem d_Ed_find_82 : decode b_Ed_find 82 = .ok (.iconst 1, 1) := by decide +kernel
theorem d_Ed_find_83 : decode b_Ed_find 83 = .ok (.iand, 1) := by decide +kernel
theorem d_Ed_find_84 : decode b_Ed_find 84 = .ok (.invokevirtual 172, 3) := by decide +kernel
theorem d_Ed_find_87 : decode b_Ed_find 87 = .ok (.ifCond .ne 5, 3) := by decide +kernel
theorem d_Ed_find_90 : decode b_Ed_find 90 = .ok (.iconst 0, 1) := by decide +kernel
theorem d_Ed_find_91 : decode b_Ed_find 91 = .ok (.ireturn, 1) := by decide +kernel
theorem d_Ed_find_92 : decode b_Ed_find 92 = .ok (.aload_n 0, 1) := by decide +kernel
theorem d_Ed_find_93 : decode b_Ed_find 93 = .ok (.getfield 18, 3) := by decide +kernel
theorem d_Ed_find_96 : decode b_Ed_find 96 = .ok (.aload_n 0, 1) := by decide +kernel
theorem d_Ed_find_97 : decode b_Ed_find 97 = .ok (.getfield 61, 3) := by decide +kernel
theorem d_Ed_find_100 : decode b_Ed_find 100 = .ok (.aload_n 0, 1) := by decide +kernel
theorem d_Ed_find_101 : decode b_Ed_find 101 = .ok (.getfield 58, 3) := by decide +kernel
theorem d_Ed_find_104 : decode b_Ed_find 104 = .ok (.invokevirtual 75, 3) := by decide +kernel
theorem d_Ed_find_107 : decode b_Ed_find 107 = .ok (.iconst 1, 1) := by decide +kernel
theorem d_Ed_find_108 : decode b_Ed_find 108 = .ok (.ireturn, 1) := by decide +kernel
