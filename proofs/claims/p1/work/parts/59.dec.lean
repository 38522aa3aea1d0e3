theorem d_K_count_0 : decode b_K_count 0 = .ok (.iload_n 1, 1) := by decide +kernel
theorem d_K_count_1 : decode b_K_count 1 = .ok (.tableswitch 100 0 9 #[55, 63, 68, 76, 81, 86, 86, 86, 86, 95], 55) := by decide +kernel
theorem d_K_count_56 : decode b_K_count 56 = .ok (.aload_n 0, 1) := by decide +kernel
theorem d_K_count_57 : decode b_K_count 57 = .ok (.getfield 54, 3) := by decide +kernel
theorem d_K_count_60 : decode b_K_count 60 = .ok (.getfield 76, 3) := by decide +kernel
theorem d_K_count_63 : decode b_K_count 63 = .ok (.ireturn, 1) := by decide +kernel
theorem d_K_count_64 : decode b_K_count 64 = .ok (.aload_n 0, 1) := by decide +kernel
theorem d_K_count_65 : decode b_K_count 65 = .ok (.getfield 88, 3) := by decide +kernel
theorem d_K_count_68 : decode b_K_count 68 = .ok (.ireturn, 1) := by decide +kernel
theorem d_K_count_69 : decode b_K_count 69 = .ok (.aload_n 0, 1) := by decide +kernel
theorem d_K_count_70 : decode b_K_count 70 = .ok (.getfield 58, 3) := by decide +kernel
theorem d_K_count_73 : decode b_K_count 73 = .ok (.getfield 76, 3) := by decide +kernel
theorem d_K_count_76 : decode b_K_count 76 = .ok (.ireturn, 1) := by decide +kernel
theorem d_K_count_77 : decode b_K_count 77 = .ok (.aload_n 0, 1) := by decide +kernel
theorem d_K_count_78 : decode b_K_count 78 = .ok (.getfield 123, 3) := by decide +kernel
theorem d_K_count_81 : decode b_K_count 81 = .ok (.ireturn, 1) := by decide +kernel
theorem d_K_count_82 : decode b_K_count 82 = .ok (.aload_n 0, 1) := by decide +kernel
theorem d_K_count_83 : decode b_K_count 83 = .ok (.getfield 141, 3) := by decide +kernel
theorem d_K_count_86 : decode b_K_count 86 = .ok (.ireturn, 1) := by decide +kernel
theorem d_K_count_87 : decode b_K_count 87 = .ok (.aload_n 0, 1) := by decide +kernel
theorem d_K_count_88 : decode b_K_count 88 = .ok (.getfield 22, 3) := by decide +kernel
theorem d_K_count_91 : decode b_K_count 91 = .ok (.iload_n 1, 1) := by decide +kernel
theorem d_K_count_92 : decode b_K_count 92 = .ok (.iconst 5, 1) := by decide +kernel
theorem d_K_count_93 : decode b_K_count 93 = .ok (.isub, 1) := by decide +kernel
theorem d_K_count_94 : decode b_K_count 94 = .ok (.iaload, 1) := by decide +kernel
theorem d_K_count_95 : decode b_K_count 95 = .ok (.ireturn, 1) := by decide +kernel
theorem d_K_count_96 : decode b_K_count 96 = .ok (.aload_n 0, 1) := by decide +kernel
theorem d_K_count_97 : decode b_K_count 97 = .ok (.getfield 134, 3) := by decide +kernel
theorem d_K_count_100 : decode b_K_count 100 = .ok (.ireturn, 1) := by decide +kernel
theorem d_K_count_101 : decode b_K_count 101 = .ok (.iconst (-1), 1) := by decide +kernel
theorem d_K_count_102 : decode b_K_count 102 = .ok (.ireturn, 1) := by decide +kernel
theorem d_M_feed_0 : decode b_M_feed 0 = .ok (.aload_n 0, 1) := by decide +kernel
theorem d_M_feed_1 : decode b_M_feed 1 = .ok (.iconst 0, 1) := by decide +kernel
theorem d_M_feed_2 : decode b_M_feed 2 = .ok (.putfield 211, 3) := by decide +kernel
theorem d_M_feed_5 : decode b_M_feed 5 = .ok (.aload_n 0, 1) := by decide +kernel
theorem d_M_feed_6 : decode b_M_feed 6 = .ok (.getfield 315, 3) := by decide +kernel
theorem d_M_feed_9 : decode b_M_feed 9 = .ok (.ldc_w 318, 3) := by decide +kernel
theorem d_M_feed_12 : decode b_M_feed 12 = .ok (.if_icmp .le 9, 3) := by decide +kernel
theorem d_M_feed_15 : decode b_M_feed 15 = .ok (.aload_n 0, 1) := by decide +kernel
theorem d_M_feed_16 : decode b_M_feed 16 = .ok (.iconst 1, 1) := by decide +kernel
theorem d_M_feed_17 : decode b_M_feed 17 = .ok (.invokevirtual 319, 3) := by decide +kernel
theorem d_M_feed_20 : decode b_M_feed 20 = .ok (.ireturn, 1) := by decide +kernel
theorem d_M_feed_21 : decode b_M_feed 21 = .ok (.iconst 0, 1) := by decide +kernel
theorem d_M_feed_22 : decode b_M_feed 22 = .ok (.istore 6, 2) := by decide +kernel
theorem d_M_feed_24 : decode b_M_feed 24 = .ok (.iload 6, 2) := by decide +kernel
theorem d_M_feed_26 : decode b_M_feed 26 = .ok (.bipush 20, 2) := by decide +kernel
theorem d_M_feed_28 : decode b_M_feed 28 = .ok (.if_icmp .ge 82, 3) := by decide +kernel
theorem d_M_feed_31 : decode b_M_feed 31 = .ok (.iload 6, 2) := by decide +kernel
theorem d_M_feed_33 : decode b_M_feed 33 = .ok (.iconst 4, 1) := by decide +kernel
theorem d_M_feed_34 : decode b_M_feed 34 = .ok (.if_icmp .ge 7, 3) := by decide +kernel
theorem d_M_feed_37 : decode b_M_feed 37 = .ok (.iload_n 1, 1) := by decide +kernel
theorem d_M_feed_38 : decode b_M_feed 38 = .ok (.goto 39, 3) := by decide +kernel
theorem d_M_feed_41 : decode b_M_feed 41 = .ok (.iload 6, 2) := by decide +kernel
theorem d_M_feed_43 : decode b_M_feed 43 = .ok (.bipush 8, 2) := by decide +kernel
theorem d_M_feed_45 : decode b_M_feed 45 = .ok (.if_icmp .ge 7, 3) := by decide +kernel
theorem d_M_feed_48 : decode b_M_feed 48 = .ok (.iload_n 2, 1) := by decide +kernel
theorem d_M_feed_49 : decode b_M_feed 49 = .ok (.goto 28, 3) := by decide +kernel
theorem d_M_feed_52 : decode b_M_feed 52 = .ok (.iload 6, 2) := by decide +kernel
theorem d_M_feed_54 : decode b_M_feed 54 = .ok (.bipush 12, 2) := by decide +kernel
theorem d_M_feed_56 : decode b_M_feed 56 = .ok (.if_icmp .ge 7, 3) := by decide +kernel
theorem d_M_feed_59 : decode b_M_feed 59 = .ok (.iload_n 3, 1) := by decide +kernel
theorem d_M_feed_60 : decode b_M_feed 60 = .ok (.goto 17, 3) := by decide +kernel
theorem d_M_feed_63 : decode b_M_feed 63 = .ok (.iload 6, 2) := by decide +kernel
theorem d_M_feed_65 : decode b_M_feed 65 = .ok (.bipush 16, 2) := by decide +kernel
theorem d_M_feed_67 : decode b_M_feed 67 = .ok (.if_icmp .ge 8, 3) := by decide +kernel
theorem d_M_feed_70 : decode b_M_feed 70 = .ok (.iload 4, 2) := by decide +kernel
theorem d_M_feed_72 : decode b_M_feed 72 = .ok (.goto 5, 3) := by decide +kernel
theorem d_M_feed_75 : decode b_M_feed 75 = .ok (.iload 5, 2) := by decide +kernel
theorem d_M_feed_77 : decode b_M_feed 77 = .ok (.istore 7, 2) := by decide +kernel
theorem d_M_feed_79 : decode b_M_feed 79 = .ok (.aload_n 0, 1) := by decide +kernel
theorem d_M_feed_80 : decode b_M_feed 80 = .ok (.getfield 8, 3) := by decide +kernel
theorem d_M_feed_83 : decode b_M_feed 83 = .ok (.aload_n 0, 1) := by decide +kernel
theorem d_M_feed_84 : decode b_M_feed 84 = .ok (.getfield 315, 3) := by decide +kernel
theorem d_M_feed_87 : decode b_M_feed 87 = .ok (.iload 6, 2) := by decide +kernel
theorem d_M_feed_89 : decode b_M_feed 89 = .ok (.iadd, 1) := by decide +kernel
theorem d_M_feed_90 : decode b_M_feed 90 = .ok (.iload 7, 2) := by decide +kernel
theorem d_M_feed_92 : decode b_M_feed 92 = .ok (.bipush 8, 2) := by decide +kernel
theorem d_M_feed_94 : decode b_M_feed 94 = .ok (.iconst 3, 1) := by decide +kernel
theorem d_M_feed_95 : decode b_M_feed 95 = .ok (.iload 6, 2) := by decide +kernel
theorem d_M_feed_97 : decode b_M_feed 97 = .ok (.iconst 4, 1) := by decide +kernel
theorem d_M_feed_98 : decode b_M_feed 98 = .ok (.irem, 1) := by decide +kernel
theorem d_M_feed_99 : decode b_M_feed 99 = .ok (.isub, 1) := by decide +kernel
theorem d_M_feed_100 : decode b_M_feed 100 = .ok (.imul, 1) := by decide +kernel
theorem d_M_feed_101 : decode b_M_feed 101 = .ok (.ishr, 1) := by decide +kernel
theorem d_M_feed_102 : decode b_M_feed 102 = .ok (.i2b, 1) := by decide +kernel
theorem d_M_feed_103 : decode b_M_feed 103 = .ok (.bastore, 1) := by decide +kernel
theorem d_M_feed_104 : decode b_M_feed 104 = .ok (.iinc 6 1, 3) := by decide +kernel
theorem d_M_feed_107 : decode b_M_feed 107 = .ok (.goto (-83), 3) := by decide +kernel
theorem d_M_feed_110 : decode b_M_feed 110 = .ok (.aload_n 0, 1) := by decide +kernel
theorem d_M_feed_111 : decode b_M_feed 111 = .ok (.dup, 1) := by decide +kernel
theorem d_M_feed_112 : decode b_M_feed 112 = .ok (.getfield 315, 3) := by decide +kernel
theorem d_M_feed_115 : decode b_M_feed 115 = .ok (.bipush 20, 2) := by decide +kernel
theorem d_M_feed_117 : decode b_M_feed 117 = .ok (.iadd, 1) := by decide +kernel
theorem d_M_feed_118 : decode b_M_feed 118 = .ok (.putfield 315, 3) := by decide +kernel
theorem d_M_feed_121 : decode b_M_feed 121 = .ok (.aload_n 0, 1) := by decide +kernel
theorem d_M_feed_122 : decode b_M_feed 122 = .ok (.getfield 315, 3) := by decide +kernel
theorem d_M_feed_125 : decode b_M_feed 125 = .ok (.ireturn, 1) := by decide +kernel
theorem d_M_count_0 : decode b_M_count 0 = .ok (.aload_n 0, 1) := by decide +kernel
theorem d_M_count_1 : decode b_M_count 1 = .ok (.iconst 0, 1) := by decide +kernel
theorem d_M_count_2 : decode b_M_count 2 = .ok (.putfield 211, 3) := by decide +kernel
theorem d_M_count_5 : decode b_M_count 5 = .ok (.iload_n 1, 1) := by decide +kernel
theorem d_M_count_6 : decode b_M_count 6 = .ok (.tableswitch 50 0 3 #[30, 35, 40, 45], 30) := by decide +kernel
theorem d_M_count_36 : decode b_M_count 36 = .ok (.aload_n 0, 1) := by decide +kernel
theorem d_M_count_37 : decode b_M_count 37 = .ok (.getfield 315, 3) := by decide +kernel
theorem d_M_count_40 : decode b_M_count 40 = .ok (.ireturn, 1) := by decide +kernel
theorem d_M_count_41 : decode b_M_count 41 = .ok (.aload_n 0, 1) := by decide +kernel
theorem d_M_count_42 : decode b_M_count 42 = .ok (.getfield 322, 3) := by decide +kernel
theorem d_M_count_45 : decode b_M_count 45 = .ok (.ireturn, 1) := by decide +kernel
theorem d_M_count_46 : decode b_M_count 46 = .ok (.aload_n 0, 1) := by decide +kernel
theorem d_M_count_47 : decode b_M_count 47 = .ok (.getfield 309, 3) := by decide +kernel
theorem d_M_count_50 : decode b_M_count 50 = .ok (.ireturn, 1) := by decide +kernel
theorem d_M_count_51 : decode b_M_count 51 = .ok (.aload_n 0, 1) := by decide +kernel
theorem d_M_count_52 : decode b_M_count 52 = .ok (.getfield 325, 3) := by decide +kernel
theorem d_M_count_55 : decode b_M_count 55 = .ok (.ireturn, 1) := by decide +kernel
theorem d_M_count_56 : decode b_M_count 56 = .ok (.iload_n 1, 1) := by decide +kernel
theorem d_M_count_57 : decode b_M_count 57 = .ok (.iconst 3, 1) := by decide +kernel
theorem d_M_count_58 : decode b_M_count 58 = .ok (.if_icmp .le 20, 3) := by decide +kernel
theorem d_M_count_61 : decode b_M_count 61 = .ok (.iload_n 1, 1) := by decide +kernel
theorem d_M_count_62 : decode b_M_count 62 = .ok (.bipush 10, 2) := by decide +kernel
theorem d_M_count_64 : decode b_M_count 64 = .ok (.if_icmp .ge 14, 3) := by decide +kernel
theorem d_M_count_67 : decode b_M_count 67 = .ok (.aload_n 0, 1) := by decide +kernel
theorem d_M_count_68 : decode b_M_count 68 = .ok (.getfield 23, 3) := by decide +kernel
theorem d_M_count_71 : decode b_M_count 71 = .ok (.iload_n 1, 1) := by decide +kernel
theorem d_M_count_72 : decode b_M_count 72 = .ok (.iconst 4, 1) := by decide +kernel
theorem d_M_count_73 : decode b_M_count 73 = .ok (.isub, 1) := by decide +kernel
theorem d_M_count_74 : decode b_M_count 74 = .ok (.iaload, 1) := by decide +kernel
theorem d_M_count_75 : decode b_M_count 75 = .ok (.goto 4, 3) := by decide +kernel
theorem d_M_count_78 : decode b_M_count 78 = .ok (.iconst (-1), 1) := by decide +kernel
theorem d_M_count_79 : decode b_M_count 79 = .ok (.ireturn, 1) := by decide +kernel
theorem d_M_end_0 : decode b_M_end 0 = .ok (.aload_n 0, 1) := by decide +kernel
theorem d_M_end_1 : decode b_M_end 1 = .ok (.iconst 0, 1) := by decide +kernel
theorem d_M_end_2 : decode b_M_end 2 = .ok (.putfield 211, 3) := by decide +kernel
theorem d_M_end_5 : decode b_M_end 5 = .ok (.iload_n 1, 1) := by decide +kernel
theorem d_M_end_6 : decode b_M_end 6 = .ok (.ifCond .lt 11, 3) := by decide +kernel
theorem d_M_end_9 : decode b_M_end 9 = .ok (.iload_n 1, 1) := by decide +kernel
theorem d_M_end_10 : decode b_M_end 10 = .ok (.aload_n 0, 1) := by decide +kernel
theorem d_M_end_11 : decode b_M_end 11 = .ok (.getfield 315, 3) := by decide +kernel
theorem d_M_end_14 : decode b_M_end 14 = .ok (.if_icmp .le 9, 3) := by decide +kernel
theorem d_M_end_17 : decode b_M_end 17 = .ok (.aload_n 0, 1) := by decide +kernel
theorem d_M_end_18 : decode b_M_end 18 = .ok (.iconst 1, 1) := by decide +kernel
theorem d_M_end_19 : decode b_M_end 19 = .ok (.invokevirtual 319, 3) := by decide +kernel
theorem d_M_end_22 : decode b_M_end 22 = .ok (.ireturn, 1) := by decide +kernel
theorem d_M_end_23 : decode b_M_end 23 = .ok (.aload_n 0, 1) := by decide +kernel
theorem d_M_end_24 : decode b_M_end 24 = .ok (.iload_n 1, 1) := by decide +kernel
theorem d_M_end_25 : decode b_M_end 25 = .ok (.putfield 315, 3) := by decide +kernel
theorem d_M_end_28 : decode b_M_end 28 = .ok (.iload_n 1, 1) := by decide +kernel
theorem d_M_end_29 : decode b_M_end 29 = .ok (.ireturn, 1) := by decide +kernel
theorem d_M_back_0 : decode b_M_back 0 = .ok (.aload_n 0, 1) := by decide +kernel
theorem d_M_back_1 : decode b_M_back 1 = .ok (.iconst 0, 1) := by decide +kernel
theorem d_M_back_2 : decode b_M_back 2 = .ok (.putfield 211, 3) := by decide +kernel
theorem d_M_back_5 : decode b_M_back 5 = .ok (.iload_n 1, 1) := by decide +kernel
theorem d_M_back_6 : decode b_M_back 6 = .ok (.iconst (-1), 1) := by decide +kernel
theorem d_M_back_7 : decode b_M_back 7 = .ok (.if_icmp .lt 11, 3) := by decide +kernel
theorem d_M_back_10 : decode b_M_back 10 = .ok (.iload_n 1, 1) := by decide +kernel
theorem d_M_back_11 : decode b_M_back 11 = .ok (.aload_n 0, 1) := by decide +kernel
theorem d_M_back_12 : decode b_M_back 12 = .ok (.getfield 325, 3) := by decide +kernel
theorem d_M_back_15 : decode b_M_back 15 = .ok (.if_icmp .lt 9, 3) := by decide +kernel
theorem d_M_back_18 : decode b_M_back 18 = .ok (.aload_n 0, 1) := by decide +kernel
theorem d_M_back_19 : decode b_M_back 19 = .ok (.iconst 1, 1) := by decide +kernel
theorem d_M_back_20 : decode b_M_back 20 = .ok (.invokevirtual 319, 3) := by decide +kernel
theorem d_M_back_23 : decode b_M_back 23 = .ok (.ireturn, 1) := by decide +kernel
theorem d_M_back_24 : decode b_M_back 24 = .ok (.aload_n 0, 1) := by decide +kernel
theorem d_M_back_25 : decode b_M_back 25 = .ok (.getfield 315, 3) := by decide +kernel
theorem d_M_back_28 : decode b_M_back 28 = .ok (.aload_n 0, 1) := by decide +kernel
theorem d_M_back_29 : decode b_M_back 29 = .ok (.getfield 325, 3) := by decide +kernel
theorem d_M_back_32 : decode b_M_back 32 = .ok (.iadd, 1) := by decide +kernel
theorem d_M_back_33 : decode b_M_back 33 = .ok (.ldc 7, 2) := by decide +kernel
theorem d_M_back_35 : decode b_M_back 35 = .ok (.if_icmp .le 9, 3) := by decide +kernel
theorem d_M_back_38 : decode b_M_back 38 = .ok (.aload_n 0, 1) := by decide +kernel
theorem d_M_back_39 : decode b_M_back 39 = .ok (.iconst 2, 1) := by decide +kernel
theorem d_M_back_40 : decode b_M_back 40 = .ok (.invokevirtual 319, 3) := by decide +kernel
theorem d_M_back_43 : decode b_M_back 43 = .ok (.ireturn, 1) := by decide +kernel
theorem d_M_back_44 : decode b_M_back 44 = .ok (.iconst 0, 1) := by decide +kernel
theorem d_M_back_45 : decode b_M_back 45 = .ok (.istore_n 3, 1) := by decide +kernel
theorem d_M_back_46 : decode b_M_back 46 = .ok (.iload_n 3, 1) := by decide +kernel
theorem d_M_back_47 : decode b_M_back 47 = .ok (.aload_n 0, 1) := by decide +kernel
theorem d_M_back_48 : decode b_M_back 48 = .ok (.getfield 325, 3) := by decide +kernel
theorem d_M_back_51 : decode b_M_back 51 = .ok (.if_icmp .ge 38, 3) := by decide +kernel
theorem d_M_back_54 : decode b_M_back 54 = .ok (.aload_n 0, 1) := by decide +kernel
theorem d_M_back_55 : decode b_M_back 55 = .ok (.getfield 8, 3) := by decide +kernel
theorem d_M_back_58 : decode b_M_back 58 = .ok (.aload_n 0, 1) := by decide +kernel
theorem d_M_back_59 : decode b_M_back 59 = .ok (.getfield 315, 3) := by decide +kernel
theorem d_M_back_62 : decode b_M_back 62 = .ok (.iload_n 3, 1) := by decide +kernel
theorem d_M_back_63 : decode b_M_back 63 = .ok (.iadd, 1) := by decide +kernel
theorem d_M_back_64 : decode b_M_back 64 = .ok (.aload_n 0, 1) := by decide +kernel
theorem d_M_back_65 : decode b_M_back 65 = .ok (.getfield 17, 3) := by decide +kernel
theorem d_M_back_68 : decode b_M_back 68 = .ok (.iload_n 3, 1) := by decide +kernel
theorem d_M_back_69 : decode b_M_back 69 = .ok (.baload, 1) := by decide +kernel
theorem d_M_back_70 : decode b_M_back 70 = .ok (.iload_n 3, 1) := by decide +kernel
theorem d_M_back_71 : decode b_M_back 71 = .ok (.iload_n 1, 1) := by decide +kernel
theorem d_M_back_72 : decode b_M_back 72 = .ok (.if_icmp .ne 7, 3) := by decide +kernel
theorem d_M_back_75 : decode b_M_back 75 = .ok (.iload_n 2, 1) := by decide +kernel
theorem d_M_back_76 : decode b_M_back 76 = .ok (.goto 4, 3) := by decide +kernel
theorem d_M_back_79 : decode b_M_back 79 = .ok (.iconst 0, 1) := by decide +kernel
theorem d_M_back_80 : decode b_M_back 80 = .ok (.ixor, 1) := by decide +kernel
theorem d_M_back_81 : decode b_M_back 81 = .ok (.i2b, 1) := by decide +kernel
theorem d_M_back_82 : decode b_M_back 82 = .ok (.bastore, 1) := by decide +kernel
theorem d_M_back_83 : decode b_M_back 83 = .ok (.iinc 3 1, 3) := by decide +kernel
theorem d_M_back_86 : decode b_M_back 86 = .ok (.goto (-40), 3) := by decide +kernel
theorem d_M_back_89 : decode b_M_back 89 = .ok (.aload_n 0, 1) := by decide +kernel
theorem d_M_back_90 : decode b_M_back 90 = .ok (.dup, 1) := by decide +kernel
theorem d_M_back_91 : decode b_M_back 91 = .ok (.getfield 315, 3) := by decide +kernel
theorem d_M_back_94 : decode b_M_back 94 = .ok (.aload_n 0, 1) := by decide +kernel
theorem d_M_back_95 : decode b_M_back 95 = .ok (.getfield 325, 3) := by decide +kernel
theorem d_M_back_98 : decode b_M_back 98 = .ok (.iadd, 1) := by decide +kernel
theorem d_M_back_99 : decode b_M_back 99 = .ok (.putfield 315, 3) := by decide +kernel
theorem d_M_back_102 : decode b_M_back 102 = .ok (.aload_n 0, 1) := by decide +kernel
theorem d_M_back_103 : decode b_M_back 103 = .ok (.getfield 315, 3) := by decide +kernel
theorem d_M_back_106 : decode b_M_back 106 = .ok (.ireturn, 1) := by decide +kernel
theorem d_M_message_0 : decode b_M_message 0 = .ok (.aload_n 0, 1) := by decide +kernel
theorem d_M_message_1 : decode b_M_message 1 = .ok (.iconst 0, 1) := by decide +kernel
theorem d_M_message_2 : decode b_M_message 2 = .ok (.putfield 211, 3) := by decide +kernel
theorem d_M_message_5 : decode b_M_message 5 = .ok (.iconst 0, 1) := by decide +kernel
theorem d_M_message_6 : decode b_M_message 6 = .ok (.istore_n 1, 1) := by decide +kernel
theorem d_M_message_7 : decode b_M_message 7 = .ok (.iload_n 1, 1) := by decide +kernel
theorem d_M_message_8 : decode b_M_message 8 = .ok (.aload_n 0, 1) := by decide +kernel
theorem d_M_message_9 : decode b_M_message 9 = .ok (.getfield 315, 3) := by decide +kernel
theorem d_M_message_12 : decode b_M_message 12 = .ok (.if_icmp .ge 21, 3) := by decide +kernel
theorem d_M_message_15 : decode b_M_message 15 = .ok (.aload_n 0, 1) := by decide +kernel
theorem d_M_message_16 : decode b_M_message 16 = .ok (.getfield 14, 3) := by decide +kernel
theorem d_M_message_19 : decode b_M_message 19 = .ok (.iload_n 1, 1) := by decide +kernel
theorem d_M_message_20 : decode b_M_message 20 = .ok (.aload_n 0, 1) := by decide +kernel
theorem d_M_message_21 : decode b_M_message 21 = .ok (.getfield 8, 3) := by decide +kernel
theorem d_M_message_24 : decode b_M_message 24 = .ok (.iload_n 1, 1) := by decide +kernel
theorem d_M_message_25 : decode b_M_message 25 = .ok (.baload, 1) := by decide +kernel
theorem d_M_message_26 : decode b_M_message 26 = .ok (.bastore, 1) := by decide +kernel
theorem d_M_message_27 : decode b_M_message 27 = .ok (.iinc 1 1, 3) := by decide +kernel
theorem d_M_message_30 : decode b_M_message 30 = .ok (.goto (-23), 3) := by decide +kernel
theorem d_M_message_33 : decode b_M_message 33 = .ok (.aload_n 0, 1) := by decide +kernel
theorem d_M_message_34 : decode b_M_message 34 = .ok (.aload_n 0, 1) := by decide +kernel
theorem d_M_message_35 : decode b_M_message 35 = .ok (.getfield 315, 3) := by decide +kernel
theorem d_M_message_38 : decode b_M_message 38 = .ok (.putfield 309, 3) := by decide +kernel
theorem d_M_message_41 : decode b_M_message 41 = .ok (.aload_n 0, 1) := by decide +kernel
theorem d_M_message_42 : decode b_M_message 42 = .ok (.iconst 0, 1) := by decide +kernel
theorem d_M_message_43 : decode b_M_message 43 = .ok (.putfield 315, 3) := by decide +kernel
theorem d_M_message_46 : decode b_M_message 46 = .ok (.aload_n 0, 1) := by decide +kernel
theorem d_M_message_47 : decode b_M_message 47 = .ok (.getfield 309, 3) := by decide +kernel
theorem d_M_message_50 : decode b_M_message 50 = .ok (.ireturn, 1) := by decide +kernel
