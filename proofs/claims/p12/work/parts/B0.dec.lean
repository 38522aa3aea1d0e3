theorem d_M_fail_0 : decode b_M_fail 0 = .ok (.aload_n 0, 1) := by decide +kernel
theorem d_M_fail_1 : decode b_M_fail 1 = .ok (.iload_n 1, 1) := by decide +kernel
theorem d_M_fail_2 : decode b_M_fail 2 = .ok (.putfield 211, 3) := by decide +kernel
theorem d_M_fail_5 : decode b_M_fail 5 = .ok (.iconst 0, 1) := by decide +kernel
theorem d_M_fail_6 : decode b_M_fail 6 = .ok (.ireturn, 1) := by decide +kernel
theorem d_M_none_0 : decode b_M_none 0 = .ok (.iload_n 1, 1) := by decide +kernel
theorem d_M_none_1 : decode b_M_none 1 = .ok (.ifCond .lt 11, 3) := by decide +kernel
theorem d_M_none_4 : decode b_M_none 4 = .ok (.iload_n 1, 1) := by decide +kernel
theorem d_M_none_5 : decode b_M_none 5 = .ok (.aload_n 0, 1) := by decide +kernel
theorem d_M_none_6 : decode b_M_none 6 = .ok (.getfield 322, 3) := by decide +kernel
theorem d_M_none_9 : decode b_M_none 9 = .ok (.if_icmp .lt 7, 3) := by decide +kernel
theorem d_M_none_12 : decode b_M_none 12 = .ok (.iconst 1, 1) := by decide +kernel
theorem d_M_none_13 : decode b_M_none 13 = .ok (.goto 4, 3) := by decide +kernel
theorem d_M_none_16 : decode b_M_none 16 = .ok (.iconst 0, 1) := by decide +kernel
theorem d_M_none_17 : decode b_M_none 17 = .ok (.ireturn, 1) := by decide +kernel
theorem d_M_tell_0 : decode b_M_tell 0 = .ok (.iconst 0, 1) := by decide +kernel
theorem d_M_tell_1 : decode b_M_tell 1 = .ok (.istore 4, 2) := by decide +kernel
theorem d_M_tell_3 : decode b_M_tell 3 = .ok (.iload 4, 2) := by decide +kernel
theorem d_M_tell_5 : decode b_M_tell 5 = .ok (.iload_n 3, 1) := by decide +kernel
theorem d_M_tell_6 : decode b_M_tell 6 = .ok (.if_icmp .ge 22, 3) := by decide +kernel
theorem d_M_tell_9 : decode b_M_tell 9 = .ok (.aload_n 0, 1) := by decide +kernel
theorem d_M_tell_10 : decode b_M_tell 10 = .ok (.getfield 17, 3) := by decide +kernel
theorem d_M_tell_13 : decode b_M_tell 13 = .ok (.iload_n 2, 1) := by decide +kernel
theorem d_M_tell_14 : decode b_M_tell 14 = .ok (.iload 4, 2) := by decide +kernel
theorem d_M_tell_16 : decode b_M_tell 16 = .ok (.iadd, 1) := by decide +kernel
theorem d_M_tell_17 : decode b_M_tell 17 = .ok (.aload_n 1, 1) := by decide +kernel
theorem d_M_tell_18 : decode b_M_tell 18 = .ok (.iload 4, 2) := by decide +kernel
theorem d_M_tell_20 : decode b_M_tell 20 = .ok (.baload, 1) := by decide +kernel
theorem d_M_tell_21 : decode b_M_tell 21 = .ok (.bastore, 1) := by decide +kernel
theorem d_M_tell_22 : decode b_M_tell 22 = .ok (.iinc 4 1, 3) := by decide +kernel
theorem d_M_tell_25 : decode b_M_tell 25 = .ok (.goto (-22), 3) := by decide +kernel
theorem d_M_tell_28 : decode b_M_tell 28 = .ok (.aload_n 0, 1) := by decide +kernel
theorem d_M_tell_29 : decode b_M_tell 29 = .ok (.iload_n 2, 1) := by decide +kernel
theorem d_M_tell_30 : decode b_M_tell 30 = .ok (.iload_n 3, 1) := by decide +kernel
theorem d_M_tell_31 : decode b_M_tell 31 = .ok (.iadd, 1) := by decide +kernel
theorem d_M_tell_32 : decode b_M_tell 32 = .ok (.putfield 325, 3) := by decide +kernel
theorem d_M_tell_35 : decode b_M_tell 35 = .ok (.return_, 1) := by decide +kernel
theorem d_M_feed_0 : decode b_M_feed 0 = .ok (.aload_n 0, 1) := by decide +kernel
theorem d_M_feed_1 : decode b_M_feed 1 = .ok (.iconst 0, 1) := by decide +kernel
theorem d_M_feed_2 : decode b_M_feed 2 = .ok (.putfield 211, 3) := by decide +kernel
theorem d_M_feed_5 : decode b_M_feed 5 = .ok (.aload_n 0, 1) := by decide +kernel
theorem d_M_feed_6 : decode b_M_feed 6 = .ok (.getfield 315, 3) := by decide +kernel
theorem d_M_feed_9 : decode b_M_feed 9 = .ok (.ldc_w 318, 3) := by decide +kernel
theorem d_M_feed_12 : decode b_M_feed 12 = .ok (.if_icmp .le 9, 3) := by decide +kernel
theorem d_M_feed_15 : decode b_M_feed 15 = .ok (.aload_n 0, 1) := by decide +kernel
theorem d_M_feed_16 : decode b_M_feed 16 = .ok (.iconst 1, 1) := by decide +kernel
theorem d_M_feed_17 : decode b_M_feed 17 = .ok (.invokevirtual 319, 3) := by decide +kernel
theorem d_M_feed_20 : decode b_M_feed 20 = .ok (.ireturn, 1) := by decide +kernel
theorem d_M_feed_21 : decode b_M_feed 21 = .ok (.iconst 0, 1) := by decide +kernel
theorem d_M_feed_22 : decode b_M_feed 22 = .ok (.istore 6, 2) := by decide +kernel
theorem d_M_feed_24 : decode b_M_feed 24 = .ok (.iload 6, 2) := by decide +kernel
theorem d_M_feed_26 : decode b_M_feed 26 = .ok (.bipush 20, 2) := by decide +kernel
theorem d_M_feed_28 : decode b_M_feed 28 = .ok (.if_icmp .ge 82, 3) := by decide +kernel
theorem d_M_feed_31 : decode b_M_feed 31 = .ok (.iload 6, 2) := by decide +kernel
theorem d_M_feed_33 : decode b_M_feed 33 = .ok (.iconst 4, 1) := by decide +kernel
theorem d_M_feed_34 : decode b_M_feed 34 = .ok (.if_icmp .ge 7, 3) := by decide +kernel
theorem d_M_feed_37 : decode b_M_feed 37 = .ok (.iload_n 1, 1) := by decide +kernel
theorem d_M_feed_38 : decode b_M_feed 38 = .ok (.goto 39, 3) := by decide +kernel
theorem d_M_feed_41 : decode b_M_feed 41 = .ok (.iload 6, 2) := by decide +kernel
theorem d_M_feed_43 : decode b_M_feed 43 = .ok (.bipush 8, 2) := by decide +kernel
theorem d_M_feed_45 : decode b_M_feed 45 = .ok (.if_icmp .ge 7, 3) := by decide +kernel
theorem d_M_feed_48 : decode b_M_feed 48 = .ok (.iload_n 2, 1) := by decide +kernel
theorem d_M_feed_49 : decode b_M_feed 49 = .ok (.goto 28, 3) := by decide +kernel
theorem d_M_feed_52 : decode b_M_feed 52 = .ok (.iload 6, 2) := by decide +kernel
theorem d_M_feed_54 : decode b_M_feed 54 = .ok (.bipush 12, 2) := by decide +kernel
theorem d_M_feed_56 : decode b_M_feed 56 = .ok (.if_icmp .ge 7, 3) := by decide +kernel
theorem d_M_feed_59 : decode b_M_feed 59 = .ok (.iload_n 3, 1) := by decide +kernel
theorem d_M_feed_60 : decode b_M_feed 60 = .ok (.goto 17, 3) := by decide +kernel
theorem d_M_feed_63 : decode b_M_feed 63 = .ok (.iload 6, 2) := by decide +kernel
theorem d_M_feed_65 : decode b_M_feed 65 = .ok (.bipush 16, 2) := by decide +kernel
theorem d_M_feed_67 : decode b_M_feed 67 = .ok (.if_icmp .ge 8, 3) := by decide +kernel
theorem d_M_feed_70 : decode b_M_feed 70 = .ok (.iload 4, 2) := by decide +kernel
theorem d_M_feed_72 : decode b_M_feed 72 = .ok (.goto 5, 3) := by decide +kernel
theorem d_M_feed_75 : decode b_M_feed 75 = .ok (.iload 5, 2) := by decide +kernel
theorem d_M_feed_77 : decode b_M_feed 77 = .ok (.istore 7, 2) := by decide +kernel
theorem d_M_feed_79 : decode b_M_feed 79 = .ok (.aload_n 0, 1) := by decide +kernel
theorem d_M_feed_80 : decode b_M_feed 80 = .ok (.getfield 8, 3) := by decide +kernel
theorem d_M_feed_83 : decode b_M_feed 83 = .ok (.aload_n 0, 1) := by decide +kernel
theorem d_M_feed_84 : decode b_M_feed 84 = .ok (.getfield 315, 3) := by decide +kernel
theorem d_M_feed_87 : decode b_M_feed 87 = .ok (.iload 6, 2) := by decide +kernel
theorem d_M_feed_89 : decode b_M_feed 89 = .ok (.iadd, 1) := by decide +kernel
theorem d_M_feed_90 : decode b_M_feed 90 = .ok (.iload 7, 2) := by decide +kernel
theorem d_M_feed_92 : decode b_M_feed 92 = .ok (.bipush 8, 2) := by decide +kernel
theorem d_M_feed_94 : decode b_M_feed 94 = .ok (.iconst 3, 1) := by decide +kernel
theorem d_M_feed_95 : decode b_M_feed 95 = .ok (.iload 6, 2) := by decide +kernel
theorem d_M_feed_97 : decode b_M_feed 97 = .ok (.iconst 4, 1) := by decide +kernel
theorem d_M_feed_98 : decode b_M_feed 98 = .ok (.irem, 1) := by decide +kernel
theorem d_M_feed_99 : decode b_M_feed 99 = .ok (.isub, 1) := by decide +kernel
theorem d_M_feed_100 : decode b_M_feed 100 = .ok (.imul, 1) := by decide +kernel
theorem d_M_feed_101 : decode b_M_feed 101 = .ok (.ishr, 1) := by decide +kernel
theorem d_M_feed_102 : decode b_M_feed 102 = .ok (.i2b, 1) := by decide +kernel
theorem d_M_feed_103 : decode b_M_feed 103 = .ok (.bastore, 1) := by decide +kernel
theorem d_M_feed_104 : decode b_M_feed 104 = .ok (.iinc 6 1, 3) := by decide +kernel
theorem d_M_feed_107 : decode b_M_feed 107 = .ok (.goto (-83), 3) := by decide +kernel
theorem d_M_feed_110 : decode b_M_feed 110 = .ok (.aload_n 0, 1) := by decide +kernel
theorem d_M_feed_111 : decode b_M_feed 111 = .ok (.dup, 1) := by decide +kernel
theorem d_M_feed_112 : decode b_M_feed 112 = .ok (.getfield 315, 3) := by decide +kernel
theorem d_M_feed_115 : decode b_M_feed 115 = .ok (.bipush 20, 2) := by decide +kernel
theorem d_M_feed_117 : decode b_M_feed 117 = .ok (.iadd, 1) := by decide +kernel
theorem d_M_feed_118 : decode b_M_feed 118 = .ok (.putfield 315, 3) := by decide +kernel
theorem d_M_feed_121 : decode b_M_feed 121 = .ok (.aload_n 0, 1) := by decide +kernel
theorem d_M_feed_122 : decode b_M_feed 122 = .ok (.getfield 315, 3) := by decide +kernel
theorem d_M_feed_125 : decode b_M_feed 125 = .ok (.ireturn, 1) := by decide +kernel
theorem d_M_end_0 : decode b_M_end 0 = .ok (.aload_n 0, 1) := by decide +kernel
theorem d_M_end_1 : decode b_M_end 1 = .ok (.iconst 0, 1) := by decide +kernel
theorem d_M_end_2 : decode b_M_end 2 = .ok (.putfield 211, 3) := by decide +kernel
theorem d_M_end_5 : decode b_M_end 5 = .ok (.iload_n 1, 1) := by decide +kernel
theorem d_M_end_6 : decode b_M_end 6 = .ok (.ifCond .lt 11, 3) := by decide +kernel
theorem d_M_end_9 : decode b_M_end 9 = .ok (.iload_n 1, 1) := by decide +kernel
theorem d_M_end_10 : decode b_M_end 10 = .ok (.aload_n 0, 1) := by decide +kernel
theorem d_M_end_11 : decode b_M_end 11 = .ok (.getfield 315, 3) := by decide +kernel
theorem d_M_end_14 : decode b_M_end 14 = .ok (.if_icmp .le 9, 3) := by decide +kernel
theorem d_M_end_17 : decode b_M_end 17 = .ok (.aload_n 0, 1) := by decide +kernel
theorem d_M_end_18 : decode b_M_end 18 = .ok (.iconst 1, 1) := by decide +kernel
theorem d_M_end_19 : decode b_M_end 19 = .ok (.invokevirtual 319, 3) := by decide +kernel
theorem d_M_end_22 : decode b_M_end 22 = .ok (.ireturn, 1) := by decide +kernel
theorem d_M_end_23 : decode b_M_end 23 = .ok (.aload_n 0, 1) := by decide +kernel
theorem d_M_end_24 : decode b_M_end 24 = .ok (.iload_n 1, 1) := by decide +kernel
theorem d_M_end_25 : decode b_M_end 25 = .ok (.putfield 315, 3) := by decide +kernel
theorem d_M_end_28 : decode b_M_end 28 = .ok (.iload_n 1, 1) := by decide +kernel
theorem d_M_end_29 : decode b_M_end 29 = .ok (.ireturn, 1) := by decide +kernel
theorem d_M_key_0 : decode b_M_key 0 = .ok (.aload_n 0, 1) := by decide +kernel
theorem d_M_key_1 : decode b_M_key 1 = .ok (.iconst 0, 1) := by decide +kernel
theorem d_M_key_2 : decode b_M_key 2 = .ok (.putfield 211, 3) := by decide +kernel
theorem d_M_key_5 : decode b_M_key 5 = .ok (.aload_n 0, 1) := by decide +kernel
theorem d_M_key_6 : decode b_M_key 6 = .ok (.getfield 315, 3) := by decide +kernel
theorem d_M_key_9 : decode b_M_key 9 = .ok (.bipush 32, 2) := by decide +kernel
theorem d_M_key_11 : decode b_M_key 11 = .ok (.if_icmp .eq 9, 3) := by decide +kernel
theorem d_M_key_14 : decode b_M_key 14 = .ok (.aload_n 0, 1) := by decide +kernel
theorem d_M_key_15 : decode b_M_key 15 = .ok (.iconst 1, 1) := by decide +kernel
theorem d_M_key_16 : decode b_M_key 16 = .ok (.invokevirtual 319, 3) := by decide +kernel
theorem d_M_key_19 : decode b_M_key 19 = .ok (.ireturn, 1) := by decide +kernel
theorem d_M_key_20 : decode b_M_key 20 = .ok (.aload_n 0, 1) := by decide +kernel
theorem d_M_key_21 : decode b_M_key 21 = .ok (.getfield 322, 3) := by decide +kernel
theorem d_M_key_24 : decode b_M_key 24 = .ok (.bipush 100, 2) := by decide +kernel
theorem d_M_key_26 : decode b_M_key 26 = .ok (.if_icmp .ne 9, 3) := by decide +kernel
theorem d_M_key_29 : decode b_M_key 29 = .ok (.aload_n 0, 1) := by decide +kernel
theorem d_M_key_30 : decode b_M_key 30 = .ok (.iconst 2, 1) := by decide +kernel
theorem d_M_key_31 : decode b_M_key 31 = .ok (.invokevirtual 319, 3) := by decide +kernel
theorem d_M_key_34 : decode b_M_key 34 = .ok (.ireturn, 1) := by decide +kernel
theorem d_M_key_35 : decode b_M_key 35 = .ok (.iconst 0, 1) := by decide +kernel
theorem d_M_key_36 : decode b_M_key 36 = .ok (.istore_n 1, 1) := by decide +kernel
theorem d_M_key_37 : decode b_M_key 37 = .ok (.iload_n 1, 1) := by decide +kernel
theorem d_M_key_38 : decode b_M_key 38 = .ok (.bipush 32, 2) := by decide +kernel
theorem d_M_key_40 : decode b_M_key 40 = .ok (.if_icmp .ge 29, 3) := by decide +kernel
theorem d_M_key_43 : decode b_M_key 43 = .ok (.aload_n 0, 1) := by decide +kernel
theorem d_M_key_44 : decode b_M_key 44 = .ok (.getfield 20, 3) := by decide +kernel
theorem d_M_key_47 : decode b_M_key 47 = .ok (.bipush 32, 2) := by decide +kernel
theorem d_M_key_49 : decode b_M_key 49 = .ok (.aload_n 0, 1) := by decide +kernel
theorem d_M_key_50 : decode b_M_key 50 = .ok (.getfield 322, 3) := by decide +kernel
theorem d_M_key_53 : decode b_M_key 53 = .ok (.imul, 1) := by decide +kernel
theorem d_M_key_54 : decode b_M_key 54 = .ok (.iload_n 1, 1) := by decide +kernel
theorem d_M_key_55 : decode b_M_key 55 = .ok (.iadd, 1) := by decide +kernel
theorem d_M_key_56 : decode b_M_key 56 = .ok (.aload_n 0, 1) := by decide +kernel
theorem d_M_key_57 : decode b_M_key 57 = .ok (.getfield 8, 3) := by decide +kernel
theorem d_M_key_60 : decode b_M_key 60 = .ok (.iload_n 1, 1) := by decide +kernel
theorem d_M_key_61 : decode b_M_key 61 = .ok (.baload, 1) := by decide +kernel
theorem d_M_key_62 : decode b_M_key 62 = .ok (.bastore, 1) := by decide +kernel
theorem d_M_key_63 : decode b_M_key 63 = .ok (.iinc 1 1, 3) := by decide +kernel
theorem d_M_key_66 : decode b_M_key 66 = .ok (.goto (-29), 3) := by decide +kernel
theorem d_M_key_69 : decode b_M_key 69 = .ok (.aload_n 0, 1) := by decide +kernel
theorem d_M_key_70 : decode b_M_key 70 = .ok (.iconst 0, 1) := by decide +kernel
theorem d_M_key_71 : decode b_M_key 71 = .ok (.putfield 315, 3) := by decide +kernel
theorem d_M_key_74 : decode b_M_key 74 = .ok (.aload_n 0, 1) := by decide +kernel
theorem d_M_key_75 : decode b_M_key 75 = .ok (.dup, 1) := by decide +kernel
theorem d_M_key_76 : decode b_M_key 76 = .ok (.getfield 322, 3) := by decide +kernel
theorem d_M_key_79 : decode b_M_key 79 = .ok (.iconst 1, 1) := by decide +kernel
theorem d_M_key_80 : decode b_M_key 80 = .ok (.iadd, 1) := by decide +kernel
theorem d_M_key_81 : decode b_M_key 81 = .ok (.putfield 322, 3) := by decide +kernel
theorem d_M_key_84 : decode b_M_key 84 = .ok (.aload_n 0, 1) := by decide +kernel
theorem d_M_key_85 : decode b_M_key 85 = .ok (.getfield 322, 3) := by decide +kernel
theorem d_M_key_88 : decode b_M_key 88 = .ok (.iconst 1, 1) := by decide +kernel
theorem d_M_key_89 : decode b_M_key 89 = .ok (.isub, 1) := by decide +kernel
theorem d_M_key_90 : decode b_M_key 90 = .ok (.ireturn, 1) := by decide +kernel
theorem d_M_open_0 : decode b_M_open 0 = .ok (.aload_n 0, 1) := by decide +kernel
theorem d_M_open_1 : decode b_M_open 1 = .ok (.aload_n 0, 1) := by decide +kernel
theorem d_M_open_2 : decode b_M_open 2 = .ok (.iload_n 1, 1) := by decide +kernel
theorem d_M_open_3 : decode b_M_open 3 = .ok (.invokevirtual 328, 3) := by decide +kernel
theorem d_M_open_6 : decode b_M_open 6 = .ok (.ifCond .eq 7, 3) := by decide +kernel
theorem d_M_open_9 : decode b_M_open 9 = .ok (.iconst 1, 1) := by decide +kernel
theorem d_M_open_10 : decode b_M_open 10 = .ok (.goto 17, 3) := by decide +kernel
theorem d_M_open_13 : decode b_M_open 13 = .ok (.iload_n 2, 1) := by decide +kernel
theorem d_M_open_14 : decode b_M_open 14 = .ok (.ifCond .lt 8, 3) := by decide +kernel
theorem d_M_open_17 : decode b_M_open 17 = .ok (.iload_n 2, 1) := by decide +kernel
theorem d_M_open_18 : decode b_M_open 18 = .ok (.iconst 1, 1) := by decide +kernel
theorem d_M_open_19 : decode b_M_open 19 = .ok (.if_icmp .le 7, 3) := by decide +kernel
theorem d_M_open_22 : decode b_M_open 22 = .ok (.iconst 2, 1) := by decide +kernel
theorem d_M_open_23 : decode b_M_open 23 = .ok (.goto 4, 3) := by decide +kernel
theorem d_M_open_26 : decode b_M_open 26 = .ok (.iconst 0, 1) := by decide +kernel
theorem d_M_open_27 : decode b_M_open 27 = .ok (.putfield 211, 3) := by decide +kernel
theorem d_M_open_30 : decode b_M_open 30 = .ok (.aload_n 0, 1) := by decide +kernel
theorem d_M_open_31 : decode b_M_open 31 = .ok (.getfield 211, 3) := by decide +kernel
theorem d_M_open_34 : decode b_M_open 34 = .ok (.ifCond .le 4, 3) := by decide +kernel
theorem d_M_open_37 : decode b_M_open 37 = .ok (.return_, 1) := by decide +kernel
theorem d_M_open_38 : decode b_M_open 38 = .ok (.iload_n 2, 1) := by decide +kernel
theorem d_M_open_39 : decode b_M_open 39 = .ok (.iconst 1, 1) := by decide +kernel
theorem d_M_open_40 : decode b_M_open 40 = .ok (.if_icmp .ne 20, 3) := by decide +kernel
theorem d_M_open_43 : decode b_M_open 43 = .ok (.aload_n 0, 1) := by decide +kernel
theorem d_M_open_44 : decode b_M_open 44 = .ok (.iload_n 1, 1) := by decide +kernel
theorem d_M_open_45 : decode b_M_open 45 = .ok (.invokevirtual 332, 3) := by decide +kernel
theorem d_M_open_48 : decode b_M_open 48 = .ok (.aload_n 0, 1) := by decide +kernel
theorem d_M_open_49 : decode b_M_open 49 = .ok (.aload_n 0, 1) := by decide +kernel
theorem d_M_open_50 : decode b_M_open 50 = .ok (.getfield 106, 3) := by decide +kernel
theorem d_M_open_53 : decode b_M_open 53 = .ok (.iconst 0, 1) := by decide +kernel
theorem d_M_open_54 : decode b_M_open 54 = .ok (.bipush 32, 2) := by decide +kernel
theorem d_M_open_56 : decode b_M_open 56 = .ok (.invokevirtual 336, 3) := by decide +kernel
theorem d_M_open_59 : decode b_M_open 59 = .ok (.return_, 1) := by decide +kernel
theorem d_M_open_60 : decode b_M_open 60 = .ok (.aload_n 0, 1) := by decide +kernel
theorem d_M_open_61 : decode b_M_open 61 = .ok (.aload_n 0, 1) := by decide +kernel
theorem d_M_open_62 : decode b_M_open 62 = .ok (.getfield 91, 3) := by decide +kernel
theorem d_M_open_65 : decode b_M_open 65 = .ok (.aload_n 0, 1) := by decide +kernel
theorem d_M_open_66 : decode b_M_open 66 = .ok (.getfield 20, 3) := by decide +kernel
theorem d_M_open_69 : decode b_M_open 69 = .ok (.bipush 32, 2) := by decide +kernel
theorem d_M_open_71 : decode b_M_open 71 = .ok (.iload_n 1, 1) := by decide +kernel
theorem d_M_open_72 : decode b_M_open 72 = .ok (.imul, 1) := by decide +kernel
theorem d_M_open_73 : decode b_M_open 73 = .ok (.invokevirtual 298, 3) := by decide +kernel
theorem d_M_open_76 : decode b_M_open 76 = .ok (.iconst 0, 1) := by decide +kernel
theorem d_M_open_77 : decode b_M_open 77 = .ok (.istore_n 3, 1) := by decide +kernel
theorem d_M_open_78 : decode b_M_open 78 = .ok (.iload_n 3, 1) := by decide +kernel
theorem d_M_open_79 : decode b_M_open 79 = .ok (.bipush 32, 2) := by decide +kernel
theorem d_M_open_81 : decode b_M_open 81 = .ok (.if_icmp .ge 26, 3) := by decide +kernel
theorem d_M_open_84 : decode b_M_open 84 = .ok (.aload_n 0, 1) := by decide +kernel
theorem d_M_open_85 : decode b_M_open 85 = .ok (.getfield 103, 3) := by decide +kernel
theorem d_M_open_88 : decode b_M_open 88 = .ok (.iload_n 3, 1) := by decide +kernel
theorem d_M_open_89 : decode b_M_open 89 = .ok (.iload_n 3, 1) := by decide +kernel
theorem d_M_open_90 : decode b_M_open 90 = .ok (.ifCond .ne 8, 3) := by decide +kernel
theorem d_M_open_93 : decode b_M_open 93 = .ok (.bipush 9, 2) := by decide +kernel
theorem d_M_open_95 : decode b_M_open 95 = .ok (.goto 4, 3) := by decide +kernel
theorem d_M_open_98 : decode b_M_open 98 = .ok (.iconst 0, 1) := by decide +kernel
theorem d_M_open_99 : decode b_M_open 99 = .ok (.i2b, 1) := by decide +kernel
theorem d_M_open_100 : decode b_M_open 100 = .ok (.bastore, 1) := by decide +kernel
theorem d_M_open_101 : decode b_M_open 101 = .ok (.iinc 3 1, 3) := by decide +kernel
theorem d_M_open_104 : decode b_M_open 104 = .ok (.goto (-26), 3) := by decide +kernel
theorem d_M_open_107 : decode b_M_open 107 = .ok (.aload_n 0, 1) := by decide +kernel
theorem d_M_open_108 : decode b_M_open 108 = .ok (.invokevirtual 340, 3) := by decide +kernel
theorem d_M_open_111 : decode b_M_open 111 = .ok (.aload_n 0, 1) := by decide +kernel
theorem d_M_open_112 : decode b_M_open 112 = .ok (.aload_n 0, 1) := by decide +kernel
theorem d_M_open_113 : decode b_M_open 113 = .ok (.getfield 103, 3) := by decide +kernel
theorem d_M_open_116 : decode b_M_open 116 = .ok (.iconst 0, 1) := by decide +kernel
theorem d_M_open_117 : decode b_M_open 117 = .ok (.bipush 32, 2) := by decide +kernel
theorem d_M_open_119 : decode b_M_open 119 = .ok (.invokevirtual 336, 3) := by decide +kernel
theorem d_M_open_122 : decode b_M_open 122 = .ok (.return_, 1) := by decide +kernel
theorem d_M_agree_0 : decode b_M_agree 0 = .ok (.aload_n 0, 1) := by decide +kernel
theorem d_M_agree_1 : decode b_M_agree 1 = .ok (.aload_n 0, 1) := by decide +kernel
theorem d_M_agree_2 : decode b_M_agree 2 = .ok (.iload_n 1, 1) := by decide +kernel
theorem d_M_agree_3 : decode b_M_agree 3 = .ok (.invokevirtual 328, 3) := by decide +kernel
theorem d_M_agree_6 : decode b_M_agree 6 = .ok (.ifCond .eq 7, 3) := by decide +kernel
theorem d_M_agree_9 : decode b_M_agree 9 = .ok (.iconst 1, 1) := by decide +kernel
theorem d_M_agree_10 : decode b_M_agree 10 = .ok (.goto 17, 3) := by decide +kernel
theorem d_M_agree_13 : decode b_M_agree 13 = .ok (.aload_n 0, 1) := by decide +kernel
theorem d_M_agree_14 : decode b_M_agree 14 = .ok (.getfield 315, 3) := by decide +kernel
theorem d_M_agree_17 : decode b_M_agree 17 = .ok (.bipush 32, 2) := by decide +kernel
theorem d_M_agree_19 : decode b_M_agree 19 = .ok (.if_icmp .eq 7, 3) := by decide +kernel
theorem d_M_agree_22 : decode b_M_agree 22 = .ok (.iconst 2, 1) := by decide +kernel
theorem d_M_agree_23 : decode b_M_agree 23 = .ok (.goto 4, 3) := by decide +kernel
theorem d_M_agree_26 : decode b_M_agree 26 = .ok (.iconst 0, 1) := by decide +kernel
theorem d_M_agree_27 : decode b_M_agree 27 = .ok (.putfield 211, 3) := by decide +kernel
theorem d_M_agree_30 : decode b_M_agree 30 = .ok (.aload_n 0, 1) := by decide +kernel
theorem d_M_agree_31 : decode b_M_agree 31 = .ok (.getfield 211, 3) := by decide +kernel
theorem d_M_agree_34 : decode b_M_agree 34 = .ok (.ifCond .le 5, 3) := by decide +kernel
theorem d_M_agree_37 : decode b_M_agree 37 = .ok (.iconst 0, 1) := by decide +kernel
theorem d_M_agree_38 : decode b_M_agree 38 = .ok (.ireturn, 1) := by decide +kernel
theorem d_M_agree_39 : decode b_M_agree 39 = .ok (.aload_n 0, 1) := by decide +kernel
theorem d_M_agree_40 : decode b_M_agree 40 = .ok (.aload_n 0, 1) := by decide +kernel
theorem d_M_agree_41 : decode b_M_agree 41 = .ok (.getfield 91, 3) := by decide +kernel
theorem d_M_agree_44 : decode b_M_agree 44 = .ok (.aload_n 0, 1) := by decide +kernel
theorem d_M_agree_45 : decode b_M_agree 45 = .ok (.getfield 20, 3) := by decide +kernel
theorem d_M_agree_48 : decode b_M_agree 48 = .ok (.bipush 32, 2) := by decide +kernel
theorem d_M_agree_50 : decode b_M_agree 50 = .ok (.iload_n 1, 1) := by decide +kernel
theorem d_M_agree_51 : decode b_M_agree 51 = .ok (.imul, 1) := by decide +kernel
theorem d_M_agree_52 : decode b_M_agree 52 = .ok (.invokevirtual 298, 3) := by decide +kernel
theorem d_M_agree_55 : decode b_M_agree 55 = .ok (.iconst 0, 1) := by decide +kernel
theorem d_M_agree_56 : decode b_M_agree 56 = .ok (.istore_n 2, 1) := by decide +kernel
theorem d_M_agree_57 : decode b_M_agree 57 = .ok (.iload_n 2, 1) := by decide +kernel
theorem d_M_agree_58 : decode b_M_agree 58 = .ok (.bipush 32, 2) := by decide +kernel
theorem d_M_agree_60 : decode b_M_agree 60 = .ok (.if_icmp .ge 21, 3) := by decide +kernel
theorem d_M_agree_63 : decode b_M_agree 63 = .ok (.aload_n 0, 1) := by decide +kernel
theorem d_M_agree_64 : decode b_M_agree 64 = .ok (.getfield 103, 3) := by decide +kernel
theorem d_M_agree_67 : decode b_M_agree 67 = .ok (.iload_n 2, 1) := by decide +kernel
theorem d_M_agree_68 : decode b_M_agree 68 = .ok (.aload_n 0, 1) := by decide +kernel
theorem d_M_agree_69 : decode b_M_agree 69 = .ok (.getfield 8, 3) := by decide +kernel
theorem d_M_agree_72 : decode b_M_agree 72 = .ok (.iload_n 2, 1) := by decide +kernel
theorem d_M_agree_73 : decode b_M_agree 73 = .ok (.baload, 1) := by decide +kernel
theorem d_M_agree_74 : decode b_M_agree 74 = .ok (.bastore, 1) := by decide +kernel
theorem d_M_agree_75 : decode b_M_agree 75 = .ok (.iinc 2 1, 3) := by decide +kernel
theorem d_M_agree_78 : decode b_M_agree 78 = .ok (.goto (-21), 3) := by decide +kernel
theorem d_M_agree_81 : decode b_M_agree 81 = .ok (.aload_n 0, 1) := by decide +kernel
theorem d_M_agree_82 : decode b_M_agree 82 = .ok (.iconst 0, 1) := by decide +kernel
theorem d_M_agree_83 : decode b_M_agree 83 = .ok (.putfield 315, 3) := by decide +kernel
theorem d_M_agree_86 : decode b_M_agree 86 = .ok (.aload_n 0, 1) := by decide +kernel
theorem d_M_agree_87 : decode b_M_agree 87 = .ok (.invokevirtual 340, 3) := by decide +kernel
theorem d_M_agree_90 : decode b_M_agree 90 = .ok (.aload_n 0, 1) := by decide +kernel
theorem d_M_agree_91 : decode b_M_agree 91 = .ok (.aload_n 0, 1) := by decide +kernel
theorem d_M_agree_92 : decode b_M_agree 92 = .ok (.getfield 103, 3) := by decide +kernel
theorem d_M_agree_95 : decode b_M_agree 95 = .ok (.iconst 0, 1) := by decide +kernel
theorem d_M_agree_96 : decode b_M_agree 96 = .ok (.bipush 32, 2) := by decide +kernel
theorem d_M_agree_98 : decode b_M_agree 98 = .ok (.invokevirtual 336, 3) := by decide +kernel
theorem d_M_agree_101 : decode b_M_agree 101 = .ok (.aload_n 0, 1) := by decide +kernel
theorem d_M_agree_102 : decode b_M_agree 102 = .ok (.getfield 52, 3) := by decide +kernel
theorem d_M_agree_105 : decode b_M_agree 105 = .ok (.invokestatic 228, 3) := by decide +kernel
theorem d_M_agree_108 : decode b_M_agree 108 = .ok (.ifCond .eq 13, 3) := by decide +kernel
theorem d_M_agree_111 : decode b_M_agree 111 = .ok (.aload_n 0, 1) := by decide +kernel
theorem d_M_agree_112 : decode b_M_agree 112 = .ok (.getfield 23, 3) := by decide +kernel
theorem d_M_agree_115 : decode b_M_agree 115 = .ok (.iconst 5, 1) := by decide +kernel
theorem d_M_agree_116 : decode b_M_agree 116 = .ok (.dup2, 1) := by decide +kernel
theorem d_M_agree_117 : decode b_M_agree 117 = .ok (.iaload, 1) := by decide +kernel
theorem d_M_agree_118 : decode b_M_agree 118 = .ok (.iconst 1, 1) := by decide +kernel
theorem d_M_agree_119 : decode b_M_agree 119 = .ok (.iadd, 1) := by decide +kernel
theorem d_M_agree_120 : decode b_M_agree 120 = .ok (.iastore, 1) := by decide +kernel
theorem d_M_agree_121 : decode b_M_agree 121 = .ok (.aload_n 0, 1) := by decide +kernel
theorem d_M_agree_122 : decode b_M_agree 122 = .ok (.getfield 52, 3) := by decide +kernel
theorem d_M_agree_125 : decode b_M_agree 125 = .ok (.invokestatic 228, 3) := by decide +kernel
theorem d_M_agree_128 : decode b_M_agree 128 = .ok (.ifCond .ne 7, 3) := by decide +kernel
theorem d_M_agree_131 : decode b_M_agree 131 = .ok (.iconst 1, 1) := by decide +kernel
theorem d_M_agree_132 : decode b_M_agree 132 = .ok (.goto 4, 3) := by decide +kernel
theorem d_M_agree_135 : decode b_M_agree 135 = .ok (.iconst 0, 1) := by decide +kernel
theorem d_M_agree_136 : decode b_M_agree 136 = .ok (.ireturn, 1) := by decide +kernel
theorem d_M_message_0 : decode b_M_message 0 = .ok (.aload_n 0, 1) := by decide +kernel
theorem d_M_message_1 : decode b_M_message 1 = .ok (.iconst 0, 1) := by decide +kernel
theorem d_M_message_2 : decode b_M_message 2 = .ok (.putfield 211, 3) := by decide +kernel
theorem d_M_message_5 : decode b_M_message 5 = .ok (.iconst 0, 1) := by decide +kernel
theorem d_M_message_6 : decode b_M_message 6 = .ok (.istore_n 1, 1) := by decide +kernel
theorem d_M_message_7 : decode b_M_message 7 = .ok (.iload_n 1, 1) := by decide +kernel
theorem d_M_message_8 : decode b_M_message 8 = .ok (.aload_n 0, 1) := by decide +kernel
theorem d_M_message_9 : decode b_M_message 9 = .ok (.getfield 315, 3) := by decide +kernel
theorem d_M_message_12 : decode b_M_message 12 = .ok (.if_icmp .ge 21, 3) := by decide +kernel
theorem d_M_message_15 : decode b_M_message 15 = .ok (.aload_n 0, 1) := by decide +kernel
theorem d_M_message_16 : decode b_M_message 16 = .ok (.getfield 14, 3) := by decide +kernel
theorem d_M_message_19 : decode b_M_message 19 = .ok (.iload_n 1, 1) := by decide +kernel
theorem d_M_message_20 : decode b_M_message 20 = .ok (.aload_n 0, 1) := by decide +kernel
theorem d_M_message_21 : decode b_M_message 21 = .ok (.getfield 8, 3) := by decide +kernel
theorem d_M_message_24 : decode b_M_message 24 = .ok (.iload_n 1, 1) := by decide +kernel
theorem d_M_message_25 : decode b_M_message 25 = .ok (.baload, 1) := by decide +kernel
theorem d_M_message_26 : decode b_M_message 26 = .ok (.bastore, 1) := by decide +kernel
theorem d_M_message_27 : decode b_M_message 27 = .ok (.iinc 1 1, 3) := by decide +kernel
theorem d_M_message_30 : decode b_M_message 30 = .ok (.goto (-23), 3) := by decide +kernel
theorem d_M_message_33 : decode b_M_message 33 = .ok (.aload_n 0, 1) := by decide +kernel
theorem d_M_message_34 : decode b_M_message 34 = .ok (.aload_n 0, 1) := by decide +kernel
theorem d_M_message_35 : decode b_M_message 35 = .ok (.getfield 315, 3) := by decide +kernel
theorem d_M_message_38 : decode b_M_message 38 = .ok (.putfield 309, 3) := by decide +kernel
theorem d_M_message_41 : decode b_M_message 41 = .ok (.aload_n 0, 1) := by decide +kernel
theorem d_M_message_42 : decode b_M_message 42 = .ok (.iconst 0, 1) := by decide +kernel
theorem d_M_message_43 : decode b_M_message 43 = .ok (.putfield 315, 3) := by decide +kernel
theorem d_M_message_46 : decode b_M_message 46 = .ok (.aload_n 0, 1) := by decide +kernel
theorem d_M_message_47 : decode b_M_message 47 = .ok (.getfield 309, 3) := by decide +kernel
theorem d_M_message_50 : decode b_M_message 50 = .ok (.ireturn, 1) := by decide +kernel
theorem d_M_sign_0 : decode b_M_sign 0 = .ok (.aload_n 0, 1) := by decide +kernel
theorem d_M_sign_1 : decode b_M_sign 1 = .ok (.aload_n 0, 1) := by decide +kernel
theorem d_M_sign_2 : decode b_M_sign 2 = .ok (.iload_n 1, 1) := by decide +kernel
theorem d_M_sign_3 : decode b_M_sign 3 = .ok (.invokevirtual 328, 3) := by decide +kernel
theorem d_M_sign_6 : decode b_M_sign 6 = .ok (.ifCond .eq 7, 3) := by decide +kernel
theorem d_M_sign_9 : decode b_M_sign 9 = .ok (.iconst 1, 1) := by decide +kernel
theorem d_M_sign_10 : decode b_M_sign 10 = .ok (.goto 4, 3) := by decide +kernel
theorem d_M_sign_13 : decode b_M_sign 13 = .ok (.iconst 0, 1) := by decide +kernel
theorem d_M_sign_14 : decode b_M_sign 14 = .ok (.putfield 211, 3) := by decide +kernel
theorem d_M_sign_17 : decode b_M_sign 17 = .ok (.aload_n 0, 1) := by decide +kernel
theorem d_M_sign_18 : decode b_M_sign 18 = .ok (.getfield 211, 3) := by decide +kernel
theorem d_M_sign_21 : decode b_M_sign 21 = .ok (.ifCond .le 4, 3) := by decide +kernel
theorem d_M_sign_24 : decode b_M_sign 24 = .ok (.return_, 1) := by decide +kernel
theorem d_M_sign_25 : decode b_M_sign 25 = .ok (.aload_n 0, 1) := by decide +kernel
theorem d_M_sign_26 : decode b_M_sign 26 = .ok (.iload_n 1, 1) := by decide +kernel
theorem d_M_sign_27 : decode b_M_sign 27 = .ok (.invokevirtual 332, 3) := by decide +kernel
theorem d_M_sign_30 : decode b_M_sign 30 = .ok (.iconst 0, 1) := by decide +kernel
theorem d_M_sign_31 : decode b_M_sign 31 = .ok (.istore_n 2, 1) := by decide +kernel
theorem d_M_sign_32 : decode b_M_sign 32 = .ok (.iload_n 2, 1) := by decide +kernel
theorem d_M_sign_33 : decode b_M_sign 33 = .ok (.bipush 32, 2) := by decide +kernel
theorem d_M_sign_35 : decode b_M_sign 35 = .ok (.if_icmp .ge 24, 3) := by decide +kernel
theorem d_M_sign_38 : decode b_M_sign 38 = .ok (.aload_n 0, 1) := by decide +kernel
theorem d_M_sign_39 : decode b_M_sign 39 = .ok (.getfield 113, 3) := by decide +kernel
theorem d_M_sign_42 : decode b_M_sign 42 = .ok (.iload_n 2, 1) := by decide +kernel
theorem d_M_sign_43 : decode b_M_sign 43 = .ok (.aload_n 0, 1) := by decide +kernel
theorem d_M_sign_44 : decode b_M_sign 44 = .ok (.getfield 159, 3) := by decide +kernel
theorem d_M_sign_47 : decode b_M_sign 47 = .ok (.bipush 32, 2) := by decide +kernel
theorem d_M_sign_49 : decode b_M_sign 49 = .ok (.iload_n 2, 1) := by decide +kernel
theorem d_M_sign_50 : decode b_M_sign 50 = .ok (.iadd, 1) := by decide +kernel
theorem d_M_sign_51 : decode b_M_sign 51 = .ok (.baload, 1) := by decide +kernel
theorem d_M_sign_52 : decode b_M_sign 52 = .ok (.bastore, 1) := by decide +kernel
theorem d_M_sign_53 : decode b_M_sign 53 = .ok (.iinc 2 1, 3) := by decide +kernel
theorem d_M_sign_56 : decode b_M_sign 56 = .ok (.goto (-24), 3) := by decide +kernel
theorem d_M_sign_59 : decode b_M_sign 59 = .ok (.aload_n 0, 1) := by decide +kernel
theorem d_M_sign_60 : decode b_M_sign 60 = .ok (.bipush 32, 2) := by decide +kernel
theorem d_M_sign_62 : decode b_M_sign 62 = .ok (.invokevirtual 343, 3) := by decide +kernel
theorem d_M_sign_65 : decode b_M_sign 65 = .ok (.aload_n 0, 1) := by decide +kernel
theorem d_M_sign_66 : decode b_M_sign 66 = .ok (.aload_n 0, 1) := by decide +kernel
theorem d_M_sign_67 : decode b_M_sign 67 = .ok (.getfield 91, 3) := by decide +kernel
theorem d_M_sign_70 : decode b_M_sign 70 = .ok (.invokevirtual 346, 3) := by decide +kernel
theorem d_M_sign_73 : decode b_M_sign 73 = .ok (.aload_n 0, 1) := by decide +kernel
theorem d_M_sign_74 : decode b_M_sign 74 = .ok (.aload_n 0, 1) := by decide +kernel
theorem d_M_sign_75 : decode b_M_sign 75 = .ok (.getfield 91, 3) := by decide +kernel
theorem d_M_sign_78 : decode b_M_sign 78 = .ok (.invokevirtual 302, 3) := by decide +kernel
theorem d_M_sign_81 : decode b_M_sign 81 = .ok (.aload_n 0, 1) := by decide +kernel
theorem d_M_sign_82 : decode b_M_sign 82 = .ok (.aload_n 0, 1) := by decide +kernel
theorem d_M_sign_83 : decode b_M_sign 83 = .ok (.getfield 109, 3) := by decide +kernel
theorem d_M_sign_86 : decode b_M_sign 86 = .ok (.aload_n 0, 1) := by decide +kernel
theorem d_M_sign_87 : decode b_M_sign 87 = .ok (.getfield 52, 3) := by decide +kernel
theorem d_M_sign_90 : decode b_M_sign 90 = .ok (.aload_n 0, 1) := by decide +kernel
theorem d_M_sign_91 : decode b_M_sign 91 = .ok (.getfield 55, 3) := by decide +kernel
theorem d_M_sign_94 : decode b_M_sign 94 = .ok (.invokevirtual 305, 3) := by decide +kernel
theorem d_M_sign_97 : decode b_M_sign 97 = .ok (.iconst 0, 1) := by decide +kernel
theorem d_M_sign_98 : decode b_M_sign 98 = .ok (.istore_n 2, 1) := by decide +kernel
theorem d_M_sign_99 : decode b_M_sign 99 = .ok (.iload_n 2, 1) := by decide +kernel
theorem d_M_sign_100 : decode b_M_sign 100 = .ok (.bipush 32, 2) := by decide +kernel
theorem d_M_sign_102 : decode b_M_sign 102 = .ok (.if_icmp .ge 36, 3) := by decide +kernel
theorem d_M_sign_105 : decode b_M_sign 105 = .ok (.aload_n 0, 1) := by decide +kernel
theorem d_M_sign_106 : decode b_M_sign 106 = .ok (.getfield 113, 3) := by decide +kernel
theorem d_M_sign_109 : decode b_M_sign 109 = .ok (.iload_n 2, 1) := by decide +kernel
theorem d_M_sign_110 : decode b_M_sign 110 = .ok (.aload_n 0, 1) := by decide +kernel
theorem d_M_sign_111 : decode b_M_sign 111 = .ok (.getfield 109, 3) := by decide +kernel
theorem d_M_sign_114 : decode b_M_sign 114 = .ok (.iload_n 2, 1) := by decide +kernel
theorem d_M_sign_115 : decode b_M_sign 115 = .ok (.baload, 1) := by decide +kernel
theorem d_M_sign_116 : decode b_M_sign 116 = .ok (.bastore, 1) := by decide +kernel
theorem d_M_sign_117 : decode b_M_sign 117 = .ok (.aload_n 0, 1) := by decide +kernel
theorem d_M_sign_118 : decode b_M_sign 118 = .ok (.getfield 113, 3) := by decide +kernel
theorem d_M_sign_121 : decode b_M_sign 121 = .ok (.bipush 32, 2) := by decide +kernel
theorem d_M_sign_123 : decode b_M_sign 123 = .ok (.iload_n 2, 1) := by decide +kernel
theorem d_M_sign_124 : decode b_M_sign 124 = .ok (.iadd, 1) := by decide +kernel
theorem d_M_sign_125 : decode b_M_sign 125 = .ok (.aload_n 0, 1) := by decide +kernel
theorem d_M_sign_126 : decode b_M_sign 126 = .ok (.getfield 106, 3) := by decide +kernel
theorem d_M_sign_129 : decode b_M_sign 129 = .ok (.iload_n 2, 1) := by decide +kernel
theorem d_M_sign_130 : decode b_M_sign 130 = .ok (.baload, 1) := by decide +kernel
theorem d_M_sign_131 : decode b_M_sign 131 = .ok (.bastore, 1) := by decide +kernel
theorem d_M_sign_132 : decode b_M_sign 132 = .ok (.iinc 2 1, 3) := by decide +kernel
theorem d_M_sign_135 : decode b_M_sign 135 = .ok (.goto (-36), 3) := by decide +kernel
theorem d_M_sign_138 : decode b_M_sign 138 = .ok (.aload_n 0, 1) := by decide +kernel
theorem d_M_sign_139 : decode b_M_sign 139 = .ok (.bipush 64, 2) := by decide +kernel
theorem d_M_sign_141 : decode b_M_sign 141 = .ok (.invokevirtual 343, 3) := by decide +kernel
theorem d_M_sign_144 : decode b_M_sign 144 = .ok (.aload_n 0, 1) := by decide +kernel
theorem d_M_sign_145 : decode b_M_sign 145 = .ok (.aload_n 0, 1) := by decide +kernel
theorem d_M_sign_146 : decode b_M_sign 146 = .ok (.getfield 97, 3) := by decide +kernel
theorem d_M_sign_149 : decode b_M_sign 149 = .ok (.invokevirtual 346, 3) := by decide +kernel
theorem d_M_sign_152 : decode b_M_sign 152 = .ok (.iconst 0, 1) := by decide +kernel
theorem d_M_sign_153 : decode b_M_sign 153 = .ok (.istore_n 2, 1) := by decide +kernel
theorem d_M_sign_154 : decode b_M_sign 154 = .ok (.iload_n 2, 1) := by decide +kernel
theorem d_M_sign_155 : decode b_M_sign 155 = .ok (.bipush 32, 2) := by decide +kernel
theorem d_M_sign_157 : decode b_M_sign 157 = .ok (.if_icmp .ge 31, 3) := by decide +kernel
theorem d_M_sign_160 : decode b_M_sign 160 = .ok (.aload_n 0, 1) := by decide +kernel
theorem d_M_sign_161 : decode b_M_sign 161 = .ok (.getfield 123, 3) := by decide +kernel
theorem d_M_sign_164 : decode b_M_sign 164 = .ok (.iload_n 2, 1) := by decide +kernel
theorem d_M_sign_165 : decode b_M_sign 165 = .ok (.iload_n 2, 1) := by decide +kernel
theorem d_M_sign_166 : decode b_M_sign 166 = .ok (.bipush 16, 2) := by decide +kernel
theorem d_M_sign_168 : decode b_M_sign 168 = .ok (.if_icmp .ge 12, 3) := by decide +kernel
theorem d_M_sign_171 : decode b_M_sign 171 = .ok (.aload_n 0, 1) := by decide +kernel
theorem d_M_sign_172 : decode b_M_sign 172 = .ok (.getfield 94, 3) := by decide +kernel
theorem d_M_sign_175 : decode b_M_sign 175 = .ok (.iload_n 2, 1) := by decide +kernel
theorem d_M_sign_176 : decode b_M_sign 176 = .ok (.laload, 1) := by decide +kernel
theorem d_M_sign_177 : decode b_M_sign 177 = .ok (.goto 4, 3) := by decide +kernel
theorem d_M_sign_180 : decode b_M_sign 180 = .ok (.lconst 0, 1) := by decide +kernel
theorem d_M_sign_181 : decode b_M_sign 181 = .ok (.lastore, 1) := by decide +kernel
theorem d_M_sign_182 : decode b_M_sign 182 = .ok (.iinc 2 1, 3) := by decide +kernel
theorem d_M_sign_185 : decode b_M_sign 185 = .ok (.goto (-31), 3) := by decide +kernel
theorem d_M_sign_188 : decode b_M_sign 188 = .ok (.aload_n 0, 1) := by decide +kernel
theorem d_M_sign_189 : decode b_M_sign 189 = .ok (.aload_n 0, 1) := by decide +kernel
theorem d_M_sign_190 : decode b_M_sign 190 = .ok (.getfield 94, 3) := by decide +kernel
theorem d_M_sign_193 : decode b_M_sign 193 = .ok (.aload_n 0, 1) := by decide +kernel
theorem d_M_sign_194 : decode b_M_sign 194 = .ok (.getfield 34, 3) := by decide +kernel
theorem d_M_sign_197 : decode b_M_sign 197 = .ok (.aload_n 0, 1) := by decide +kernel
theorem d_M_sign_198 : decode b_M_sign 198 = .ok (.getfield 37, 3) := by decide +kernel
theorem d_M_sign_201 : decode b_M_sign 201 = .ok (.invokevirtual 225, 3) := by decide +kernel
theorem d_M_sign_204 : decode b_M_sign 204 = .ok (.aload_n 0, 1) := by decide +kernel
theorem d_M_sign_205 : decode b_M_sign 205 = .ok (.aload_n 0, 1) := by decide +kernel
theorem d_M_sign_206 : decode b_M_sign 206 = .ok (.getfield 97, 3) := by decide +kernel
theorem d_M_sign_209 : decode b_M_sign 209 = .ok (.aload_n 0, 1) := by decide +kernel
theorem d_M_sign_210 : decode b_M_sign 210 = .ok (.getfield 97, 3) := by decide +kernel
theorem d_M_sign_213 : decode b_M_sign 213 = .ok (.aload_n 0, 1) := by decide +kernel
theorem d_M_sign_214 : decode b_M_sign 214 = .ok (.getfield 94, 3) := by decide +kernel
theorem d_M_sign_217 : decode b_M_sign 217 = .ok (.aload_n 0, 1) := by decide +kernel
theorem d_M_sign_218 : decode b_M_sign 218 = .ok (.getfield 34, 3) := by decide +kernel
theorem d_M_sign_221 : decode b_M_sign 221 = .ok (.aload_n 0, 1) := by decide +kernel
theorem d_M_sign_222 : decode b_M_sign 222 = .ok (.getfield 37, 3) := by decide +kernel
theorem d_M_sign_225 : decode b_M_sign 225 = .ok (.invokevirtual 188, 3) := by decide +kernel
theorem d_M_sign_228 : decode b_M_sign 228 = .ok (.aload_n 0, 1) := by decide +kernel
theorem d_M_sign_229 : decode b_M_sign 229 = .ok (.getfield 97, 3) := by decide +kernel
theorem d_M_sign_232 : decode b_M_sign 232 = .ok (.aload_n 0, 1) := by decide +kernel
theorem d_M_sign_233 : decode b_M_sign 233 = .ok (.getfield 97, 3) := by decide +kernel
theorem d_M_sign_236 : decode b_M_sign 236 = .ok (.aload_n 0, 1) := by decide +kernel
theorem d_M_sign_237 : decode b_M_sign 237 = .ok (.getfield 91, 3) := by decide +kernel
theorem d_M_sign_240 : decode b_M_sign 240 = .ok (.aload_n 0, 1) := by decide +kernel
theorem d_M_sign_241 : decode b_M_sign 241 = .ok (.getfield 34, 3) := by decide +kernel
theorem d_M_sign_244 : decode b_M_sign 244 = .ok (.invokestatic 222, 3) := by decide +kernel
theorem d_M_sign_247 : decode b_M_sign 247 = .ok (.aload_n 0, 1) := by decide +kernel
theorem d_M_sign_248 : decode b_M_sign 248 = .ok (.aload_n 0, 1) := by decide +kernel
theorem d_M_sign_249 : decode b_M_sign 249 = .ok (.getfield 109, 3) := by decide +kernel
theorem d_M_sign_252 : decode b_M_sign 252 = .ok (.iconst 0, 1) := by decide +kernel
theorem d_M_sign_253 : decode b_M_sign 253 = .ok (.bipush 32, 2) := by decide +kernel
theorem d_M_sign_255 : decode b_M_sign 255 = .ok (.invokevirtual 336, 3) := by decide +kernel
theorem d_M_sign_258 : decode b_M_sign 258 = .ok (.iconst 0, 1) := by decide +kernel
theorem d_M_sign_259 : decode b_M_sign 259 = .ok (.istore_n 2, 1) := by decide +kernel
theorem d_M_sign_260 : decode b_M_sign 260 = .ok (.iload_n 2, 1) := by decide +kernel
theorem d_M_sign_261 : decode b_M_sign 261 = .ok (.bipush 32, 2) := by decide +kernel
theorem d_M_sign_263 : decode b_M_sign 263 = .ok (.if_icmp .ge 32, 3) := by decide +kernel
theorem d_M_sign_266 : decode b_M_sign 266 = .ok (.aload_n 0, 1) := by decide +kernel
theorem d_M_sign_267 : decode b_M_sign 267 = .ok (.getfield 103, 3) := by decide +kernel
theorem d_M_sign_270 : decode b_M_sign 270 = .ok (.iload_n 2, 1) := by decide +kernel
theorem d_M_sign_271 : decode b_M_sign 271 = .ok (.aload_n 0, 1) := by decide +kernel
theorem d_M_sign_272 : decode b_M_sign 272 = .ok (.getfield 97, 3) := by decide +kernel
theorem d_M_sign_275 : decode b_M_sign 275 = .ok (.iload_n 2, 1) := by decide +kernel
theorem d_M_sign_276 : decode b_M_sign 276 = .ok (.iconst 2, 1) := by decide +kernel
theorem d_M_sign_277 : decode b_M_sign 277 = .ok (.idiv, 1) := by decide +kernel
theorem d_M_sign_278 : decode b_M_sign 278 = .ok (.laload, 1) := by decide +kernel
theorem d_M_sign_279 : decode b_M_sign 279 = .ok (.bipush 8, 2) := by decide +kernel
theorem d_M_sign_281 : decode b_M_sign 281 = .ok (.iload_n 2, 1) := by decide +kernel
theorem d_M_sign_282 : decode b_M_sign 282 = .ok (.iconst 2, 1) := by decide +kernel
theorem d_M_sign_283 : decode b_M_sign 283 = .ok (.irem, 1) := by decide +kernel
theorem d_M_sign_284 : decode b_M_sign 284 = .ok (.imul, 1) := by decide +kernel
theorem d_M_sign_285 : decode b_M_sign 285 = .ok (.lshr, 1) := by decide +kernel
theorem d_M_sign_286 : decode b_M_sign 286 = .ok (.l2i, 1) := by decide +kernel
theorem d_M_sign_287 : decode b_M_sign 287 = .ok (.i2b, 1) := by decide +kernel
theorem d_M_sign_288 : decode b_M_sign 288 = .ok (.bastore, 1) := by decide +kernel
theorem d_M_sign_289 : decode b_M_sign 289 = .ok (.iinc 2 1, 3) := by decide +kernel
theorem d_M_sign_292 : decode b_M_sign 292 = .ok (.goto (-32), 3) := by decide +kernel
theorem d_M_sign_295 : decode b_M_sign 295 = .ok (.aload_n 0, 1) := by decide +kernel
theorem d_M_sign_296 : decode b_M_sign 296 = .ok (.aload_n 0, 1) := by decide +kernel
theorem d_M_sign_297 : decode b_M_sign 297 = .ok (.getfield 103, 3) := by decide +kernel
theorem d_M_sign_300 : decode b_M_sign 300 = .ok (.bipush 32, 2) := by decide +kernel
theorem d_M_sign_302 : decode b_M_sign 302 = .ok (.bipush 32, 2) := by decide +kernel
theorem d_M_sign_304 : decode b_M_sign 304 = .ok (.invokevirtual 336, 3) := by decide +kernel
theorem d_M_sign_307 : decode b_M_sign 307 = .ok (.aload_n 0, 1) := by decide +kernel
theorem d_M_sign_308 : decode b_M_sign 308 = .ok (.getfield 23, 3) := by decide +kernel
theorem d_M_sign_311 : decode b_M_sign 311 = .ok (.iconst 0, 1) := by decide +kernel
theorem d_M_sign_312 : decode b_M_sign 312 = .ok (.dup2, 1) := by decide +kernel
theorem d_M_sign_313 : decode b_M_sign 313 = .ok (.iaload, 1) := by decide +kernel
theorem d_M_sign_314 : decode b_M_sign 314 = .ok (.iconst 1, 1) := by decide +kernel
theorem d_M_sign_315 : decode b_M_sign 315 = .ok (.iadd, 1) := by decide +kernel
theorem d_M_sign_316 : decode b_M_sign 316 = .ok (.iastore, 1) := by decide +kernel
theorem d_M_sign_317 : decode b_M_sign 317 = .ok (.return_, 1) := by decide +kernel
theorem d_M_verify_0 : decode b_M_verify 0 = .ok (.aload_n 0, 1) := by decide +kernel
theorem d_M_verify_1 : decode b_M_verify 1 = .ok (.iconst 0, 1) := by decide +kernel
theorem d_M_verify_2 : decode b_M_verify 2 = .ok (.putfield 211, 3) := by decide +kernel
theorem d_M_verify_5 : decode b_M_verify 5 = .ok (.aload_n 0, 1) := by decide +kernel
theorem d_M_verify_6 : decode b_M_verify 6 = .ok (.getfield 315, 3) := by decide +kernel
theorem d_M_verify_9 : decode b_M_verify 9 = .ok (.bipush 96, 2) := by decide +kernel
theorem d_M_verify_11 : decode b_M_verify 11 = .ok (.if_icmp .eq 9, 3) := by decide +kernel
theorem d_M_verify_14 : decode b_M_verify 14 = .ok (.aload_n 0, 1) := by decide +kernel
theorem d_M_verify_15 : decode b_M_verify 15 = .ok (.iconst 1, 1) := by decide +kernel
theorem d_M_verify_16 : decode b_M_verify 16 = .ok (.invokevirtual 319, 3) := by decide +kernel
theorem d_M_verify_19 : decode b_M_verify 19 = .ok (.ireturn, 1) := by decide +kernel
theorem d_M_verify_20 : decode b_M_verify 20 = .ok (.aload_n 0, 1) := by decide +kernel
theorem d_M_verify_21 : decode b_M_verify 21 = .ok (.invokevirtual 349, 3) := by decide +kernel
theorem d_M_verify_24 : decode b_M_verify 24 = .ok (.istore_n 1, 1) := by decide +kernel
theorem d_M_verify_25 : decode b_M_verify 25 = .ok (.aload_n 0, 1) := by decide +kernel
theorem d_M_verify_26 : decode b_M_verify 26 = .ok (.iconst 0, 1) := by decide +kernel
theorem d_M_verify_27 : decode b_M_verify 27 = .ok (.putfield 315, 3) := by decide +kernel
theorem d_M_verify_30 : decode b_M_verify 30 = .ok (.aload_n 0, 1) := by decide +kernel
theorem d_M_verify_31 : decode b_M_verify 31 = .ok (.getfield 23, 3) := by decide +kernel
theorem d_M_verify_34 : decode b_M_verify 34 = .ok (.iconst 1, 1) := by decide +kernel
theorem d_M_verify_35 : decode b_M_verify 35 = .ok (.iload_n 1, 1) := by decide +kernel
theorem d_M_verify_36 : decode b_M_verify 36 = .ok (.iadd, 1) := by decide +kernel
theorem d_M_verify_37 : decode b_M_verify 37 = .ok (.dup2, 1) := by decide +kernel
theorem d_M_verify_38 : decode b_M_verify 38 = .ok (.iaload, 1) := by decide +kernel
theorem d_M_verify_39 : decode b_M_verify 39 = .ok (.iconst 1, 1) := by decide +kernel
theorem d_M_verify_40 : decode b_M_verify 40 = .ok (.iadd, 1) := by decide +kernel
theorem d_M_verify_41 : decode b_M_verify 41 = .ok (.iastore, 1) := by decide +kernel
theorem d_M_verify_42 : decode b_M_verify 42 = .ok (.iload_n 1, 1) := by decide +kernel
theorem d_M_verify_43 : decode b_M_verify 43 = .ok (.ireturn, 1) := by decide +kernel
theorem d_M_point_0 : decode b_M_point 0 = .ok (.aload_n 0, 1) := by decide +kernel
theorem d_M_point_1 : decode b_M_point 1 = .ok (.iconst 0, 1) := by decide +kernel
theorem d_M_point_2 : decode b_M_point 2 = .ok (.putfield 211, 3) := by decide +kernel
theorem d_M_point_5 : decode b_M_point 5 = .ok (.aload_n 0, 1) := by decide +kernel
theorem d_M_point_6 : decode b_M_point 6 = .ok (.getfield 315, 3) := by decide +kernel
theorem d_M_point_9 : decode b_M_point 9 = .ok (.bipush 32, 2) := by decide +kernel
theorem d_M_point_11 : decode b_M_point 11 = .ok (.if_icmp .eq 10, 3) := by decide +kernel
theorem d_M_point_14 : decode b_M_point 14 = .ok (.aload_n 0, 1) := by decide +kernel
theorem d_M_point_15 : decode b_M_point 15 = .ok (.iconst 1, 1) := by decide +kernel
theorem d_M_point_16 : decode b_M_point 16 = .ok (.putfield 211, 3) := by decide +kernel
theorem d_M_point_19 : decode b_M_point 19 = .ok (.iconst 0, 1) := by decide +kernel
theorem d_M_point_20 : decode b_M_point 20 = .ok (.ireturn, 1) := by decide +kernel
theorem d_M_point_21 : decode b_M_point 21 = .ok (.iconst 0, 1) := by decide +kernel
theorem d_M_point_22 : decode b_M_point 22 = .ok (.istore_n 1, 1) := by decide +kernel
theorem d_M_point_23 : decode b_M_point 23 = .ok (.iload_n 1, 1) := by decide +kernel
theorem d_M_point_24 : decode b_M_point 24 = .ok (.bipush 32, 2) := by decide +kernel
theorem d_M_point_26 : decode b_M_point 26 = .ok (.if_icmp .ge 21, 3) := by decide +kernel
theorem d_M_point_29 : decode b_M_point 29 = .ok (.aload_n 0, 1) := by decide +kernel
theorem d_M_point_30 : decode b_M_point 30 = .ok (.getfield 103, 3) := by decide +kernel
theorem d_M_point_33 : decode b_M_point 33 = .ok (.iload_n 1, 1) := by decide +kernel
theorem d_M_point_34 : decode b_M_point 34 = .ok (.aload_n 0, 1) := by decide +kernel
theorem d_M_point_35 : decode b_M_point 35 = .ok (.getfield 8, 3) := by decide +kernel
theorem d_M_point_38 : decode b_M_point 38 = .ok (.iload_n 1, 1) := by decide +kernel
theorem d_M_point_39 : decode b_M_point 39 = .ok (.baload, 1) := by decide +kernel
theorem d_M_point_40 : decode b_M_point 40 = .ok (.bastore, 1) := by decide +kernel
theorem d_M_point_41 : decode b_M_point 41 = .ok (.iinc 1 1, 3) := by decide +kernel
theorem d_M_point_44 : decode b_M_point 44 = .ok (.goto (-21), 3) := by decide +kernel
theorem d_M_point_47 : decode b_M_point 47 = .ok (.aload_n 0, 1) := by decide +kernel
theorem d_M_point_48 : decode b_M_point 48 = .ok (.iconst 0, 1) := by decide +kernel
theorem d_M_point_49 : decode b_M_point 49 = .ok (.putfield 315, 3) := by decide +kernel
theorem d_M_point_52 : decode b_M_point 52 = .ok (.aload_n 0, 1) := by decide +kernel
theorem d_M_point_53 : decode b_M_point 53 = .ok (.invokevirtual 203, 3) := by decide +kernel
theorem d_M_point_56 : decode b_M_point 56 = .ok (.ifCond .ne 5, 3) := by decide +kernel
theorem d_M_point_59 : decode b_M_point 59 = .ok (.iconst 0, 1) := by decide +kernel
theorem d_M_point_60 : decode b_M_point 60 = .ok (.ireturn, 1) := by decide +kernel
theorem d_M_point_61 : decode b_M_point 61 = .ok (.iconst 0, 1) := by decide +kernel
theorem d_M_point_62 : decode b_M_point 62 = .ok (.istore_n 1, 1) := by decide +kernel
theorem d_M_point_63 : decode b_M_point 63 = .ok (.iload_n 1, 1) := by decide +kernel
theorem d_M_point_64 : decode b_M_point 64 = .ok (.bipush 32, 2) := by decide +kernel
theorem d_M_point_66 : decode b_M_point 66 = .ok (.if_icmp .ge 32, 3) := by decide +kernel
theorem d_M_point_69 : decode b_M_point 69 = .ok (.aload_n 0, 1) := by decide +kernel
theorem d_M_point_70 : decode b_M_point 70 = .ok (.getfield 103, 3) := by decide +kernel
theorem d_M_point_73 : decode b_M_point 73 = .ok (.iload_n 1, 1) := by decide +kernel
theorem d_M_point_74 : decode b_M_point 74 = .ok (.aload_n 0, 1) := by decide +kernel
theorem d_M_point_75 : decode b_M_point 75 = .ok (.getfield 58, 3) := by decide +kernel
theorem d_M_point_78 : decode b_M_point 78 = .ok (.iload_n 1, 1) := by decide +kernel
theorem d_M_point_79 : decode b_M_point 79 = .ok (.iconst 2, 1) := by decide +kernel
theorem d_M_point_80 : decode b_M_point 80 = .ok (.idiv, 1) := by decide +kernel
theorem d_M_point_81 : decode b_M_point 81 = .ok (.laload, 1) := by decide +kernel
theorem d_M_point_82 : decode b_M_point 82 = .ok (.bipush 8, 2) := by decide +kernel
theorem d_M_point_84 : decode b_M_point 84 = .ok (.iload_n 1, 1) := by decide +kernel
theorem d_M_point_85 : decode b_M_point 85 = .ok (.iconst 2, 1) := by decide +kernel
theorem d_M_point_86 : decode b_M_point 86 = .ok (.irem, 1) := by decide +kernel
theorem d_M_point_87 : decode b_M_point 87 = .ok (.imul, 1) := by decide +kernel
theorem d_M_point_88 : decode b_M_point 88 = .ok (.lshr, 1) := by decide +kernel
theorem d_M_point_89 : decode b_M_point 89 = .ok (.l2i, 1) := by decide +kernel
theorem d_M_point_90 : decode b_M_point 90 = .ok (.i2b, 1) := by decide +kernel
theorem d_M_point_91 : decode b_M_point 91 = .ok (.bastore, 1) := by decide +kernel
theorem d_M_point_92 : decode b_M_point 92 = .ok (.iinc 1 1, 3) := by decide +kernel
theorem d_M_point_95 : decode b_M_point 95 = .ok (.goto (-32), 3) := by decide +kernel
theorem d_M_point_98 : decode b_M_point 98 = .ok (.aload_n 0, 1) := by decide +kernel
theorem d_M_point_99 : decode b_M_point 99 = .ok (.aload_n 0, 1) := by decide +kernel
theorem d_M_point_100 : decode b_M_point 100 = .ok (.getfield 103, 3) := by decide +kernel
theorem d_M_point_103 : decode b_M_point 103 = .ok (.iconst 0, 1) := by decide +kernel
theorem d_M_point_104 : decode b_M_point 104 = .ok (.bipush 32, 2) := by decide +kernel
theorem d_M_point_106 : decode b_M_point 106 = .ok (.invokevirtual 336, 3) := by decide +kernel
theorem d_M_point_109 : decode b_M_point 109 = .ok (.iconst 1, 1) := by decide +kernel
theorem d_M_point_110 : decode b_M_point 110 = .ok (.ireturn, 1) := by decide +kernel
theorem d_M_back_0 : decode b_M_back 0 = .ok (.aload_n 0, 1) := by decide +kernel
theorem d_M_back_1 : decode b_M_back 1 = .ok (.iconst 0, 1) := by decide +kernel
theorem d_M_back_2 : decode b_M_back 2 = .ok (.putfield 211, 3) := by decide +kernel
theorem d_M_back_5 : decode b_M_back 5 = .ok (.iload_n 1, 1) := by decide +kernel
theorem d_M_back_6 : decode b_M_back 6 = .ok (.iconst (-1), 1) := by decide +kernel
theorem d_M_back_7 : decode b_M_back 7 = .ok (.if_icmp .lt 11, 3) := by decide +kernel
theorem d_M_back_10 : decode b_M_back 10 = .ok (.iload_n 1, 1) := by decide +kernel
theorem d_M_back_11 : decode b_M_back 11 = .ok (.aload_n 0, 1) := by decide +kernel
theorem d_M_back_12 : decode b_M_back 12 = .ok (.getfield 325, 3) := by decide +kernel
theorem d_M_back_15 : decode b_M_back 15 = .ok (.if_icmp .lt 9, 3) := by decide +kernel
theorem d_M_back_18 : decode b_M_back 18 = .ok (.aload_n 0, 1) := by decide +kernel
theorem d_M_back_19 : decode b_M_back 19 = .ok (.iconst 1, 1) := by decide +kernel
theorem d_M_back_20 : decode b_M_back 20 = .ok (.invokevirtual 319, 3) := by decide +kernel
theorem d_M_back_23 : decode b_M_back 23 = .ok (.ireturn, 1) := by decide +kernel
theorem d_M_back_24 : decode b_M_back 24 = .ok (.aload_n 0, 1) := by decide +kernel
theorem d_M_back_25 : decode b_M_back 25 = .ok (.getfield 315, 3) := by decide +kernel
theorem d_M_back_28 : decode b_M_back 28 = .ok (.aload_n 0, 1) := by decide +kernel
theorem d_M_back_29 : decode b_M_back 29 = .ok (.getfield 325, 3) := by decide +kernel
theorem d_M_back_32 : decode b_M_back 32 = .ok (.iadd, 1) := by decide +kernel
theorem d_M_back_33 : decode b_M_back 33 = .ok (.ldc 7, 2) := by decide +kernel
theorem d_M_back_35 : decode b_M_back 35 = .ok (.if_icmp .le 9, 3) := by decide +kernel
theorem d_M_back_38 : decode b_M_back 38 = .ok (.aload_n 0, 1) := by decide +kernel
theorem d_M_back_39 : decode b_M_back 39 = .ok (.iconst 2, 1) := by decide +kernel
theorem d_M_back_40 : decode b_M_back 40 = .ok (.invokevirtual 319, 3) := by decide +kernel
theorem d_M_back_43 : decode b_M_back 43 = .ok (.ireturn, 1) := by decide +kernel
theorem d_M_back_44 : decode b_M_back 44 = .ok (.iconst 0, 1) := by decide +kernel
theorem d_M_back_45 : decode b_M_back 45 = .ok (.istore_n 3, 1) := by decide +kernel
theorem d_M_back_46 : decode b_M_back 46 = .ok (.iload_n 3, 1) := by decide +kernel
theorem d_M_back_47 : decode b_M_back 47 = .ok (.aload_n 0, 1) := by decide +kernel
theorem d_M_back_48 : decode b_M_back 48 = .ok (.getfield 325, 3) := by decide +kernel
theorem d_M_back_51 : decode b_M_back 51 = .ok (.if_icmp .ge 38, 3) := by decide +kernel
theorem d_M_back_54 : decode b_M_back 54 = .ok (.aload_n 0, 1) := by decide +kernel
theorem d_M_back_55 : decode b_M_back 55 = .ok (.getfield 8, 3) := by decide +kernel
theorem d_M_back_58 : decode b_M_back 58 = .ok (.aload_n 0, 1) := by decide +kernel
theorem d_M_back_59 : decode b_M_back 59 = .ok (.getfield 315, 3) := by decide +kernel
theorem d_M_back_62 : decode b_M_back 62 = .ok (.iload_n 3, 1) := by decide +kernel
theorem d_M_back_63 : decode b_M_back 63 = .ok (.iadd, 1) := by decide +kernel
theorem d_M_back_64 : decode b_M_back 64 = .ok (.aload_n 0, 1) := by decide +kernel
theorem d_M_back_65 : decode b_M_back 65 = .ok (.getfield 17, 3) := by decide +kernel
theorem d_M_back_68 : decode b_M_back 68 = .ok (.iload_n 3, 1) := by decide +kernel
theorem d_M_back_69 : decode b_M_back 69 = .ok (.baload, 1) := by decide +kernel
theorem d_M_back_70 : decode b_M_back 70 = .ok (.iload_n 3, 1) := by decide +kernel
theorem d_M_back_71 : decode b_M_back 71 = .ok (.iload_n 1, 1) := by decide +kernel
theorem d_M_back_72 : decode b_M_back 72 = .ok (.if_icmp .ne 7, 3) := by decide +kernel
theorem d_M_back_75 : decode b_M_back 75 = .ok (.iload_n 2, 1) := by decide +kernel
theorem d_M_back_76 : decode b_M_back 76 = .ok (.goto 4, 3) := by decide +kernel
theorem d_M_back_79 : decode b_M_back 79 = .ok (.iconst 0, 1) := by decide +kernel
theorem d_M_back_80 : decode b_M_back 80 = .ok (.ixor, 1) := by decide +kernel
theorem d_M_back_81 : decode b_M_back 81 = .ok (.i2b, 1) := by decide +kernel
theorem d_M_back_82 : decode b_M_back 82 = .ok (.bastore, 1) := by decide +kernel
theorem d_M_back_83 : decode b_M_back 83 = .ok (.iinc 3 1, 3) := by decide +kernel
theorem d_M_back_86 : decode b_M_back 86 = .ok (.goto (-40), 3) := by decide +kernel
theorem d_M_back_89 : decode b_M_back 89 = .ok (.aload_n 0, 1) := by decide +kernel
theorem d_M_back_90 : decode b_M_back 90 = .ok (.dup, 1) := by decide +kernel
theorem d_M_back_91 : decode b_M_back 91 = .ok (.getfield 315, 3) := by decide +kernel
theorem d_M_back_94 : decode b_M_back 94 = .ok (.aload_n 0, 1) := by decide +kernel
theorem d_M_back_95 : decode b_M_back 95 = .ok (.getfield 325, 3) := by decide +kernel
theorem d_M_back_98 : decode b_M_back 98 = .ok (.iadd, 1) := by decide +kernel
theorem d_M_back_99 : decode b_M_back 99 = .ok (.putfield 315, 3) := by decide +kernel
theorem d_M_back_102 : decode b_M_back 102 = .ok (.aload_n 0, 1) := by decide +kernel
theorem d_M_back_103 : decode b_M_back 103 = .ok (.getfield 315, 3) := by decide +kernel
theorem d_M_back_106 : decode b_M_back 106 = .ok (.ireturn, 1) := by decide +kernel
theorem d_M_result_0 : decode b_M_result 0 = .ok (.aload_n 0, 1) := by decide +kernel
theorem d_M_result_1 : decode b_M_result 1 = .ok (.iconst 0, 1) := by decide +kernel
theorem d_M_result_2 : decode b_M_result 2 = .ok (.putfield 211, 3) := by decide +kernel
theorem d_M_result_5 : decode b_M_result 5 = .ok (.iload_n 1, 1) := by decide +kernel
theorem d_M_result_6 : decode b_M_result 6 = .ok (.ifCond .lt 11, 3) := by decide +kernel
theorem d_M_result_9 : decode b_M_result 9 = .ok (.iload_n 1, 1) := by decide +kernel
theorem d_M_result_10 : decode b_M_result 10 = .ok (.aload_n 0, 1) := by decide +kernel
theorem d_M_result_11 : decode b_M_result 11 = .ok (.getfield 325, 3) := by decide +kernel
theorem d_M_result_14 : decode b_M_result 14 = .ok (.if_icmp .lt 9, 3) := by decide +kernel
theorem d_M_result_17 : decode b_M_result 17 = .ok (.aload_n 0, 1) := by decide +kernel
theorem d_M_result_18 : decode b_M_result 18 = .ok (.iconst 1, 1) := by decide +kernel
theorem d_M_result_19 : decode b_M_result 19 = .ok (.invokevirtual 319, 3) := by decide +kernel
theorem d_M_result_22 : decode b_M_result 22 = .ok (.ireturn, 1) := by decide +kernel
theorem d_M_result_23 : decode b_M_result 23 = .ok (.aload_n 0, 1) := by decide +kernel
theorem d_M_result_24 : decode b_M_result 24 = .ok (.getfield 17, 3) := by decide +kernel
theorem d_M_result_27 : decode b_M_result 27 = .ok (.iload_n 1, 1) := by decide +kernel
theorem d_M_result_28 : decode b_M_result 28 = .ok (.baload, 1) := by decide +kernel
theorem d_M_result_29 : decode b_M_result 29 = .ok (.sipush 255, 3) := by decide +kernel
theorem d_M_result_32 : decode b_M_result 32 = .ok (.iand, 1) := by decide +kernel
theorem d_M_result_33 : decode b_M_result 33 = .ok (.ireturn, 1) := by decide +kernel
theorem d_M_count_0 : decode b_M_count 0 = .ok (.aload_n 0, 1) := by decide +kernel
theorem d_M_count_1 : decode b_M_count 1 = .ok (.iconst 0, 1) := by decide +kernel
theorem d_M_count_2 : decode b_M_count 2 = .ok (.putfield 211, 3) := by decide +kernel
theorem d_M_count_5 : decode b_M_count 5 = .ok (.iload_n 1, 1) := by decide +kernel
theorem d_M_count_6 : decode b_M_count 6 = .ok (.tableswitch 50 0 3 #[30, 35, 40, 45], 30) := by decide +kernel
theorem d_M_count_36 : decode b_M_count 36 = .ok (.aload_n 0, 1) := by decide +kernel
theorem d_M_count_37 : decode b_M_count 37 = .ok (.getfield 315, 3) := by decide +kernel
theorem d_M_count_40 : decode b_M_count 40 = .ok (.ireturn, 1) := by decide +kernel
theorem d_M_count_41 : decode b_M_count 41 = .ok (.aload_n 0, 1) := by decide +kernel
theorem d_M_count_42 : decode b_M_count 42 = .ok (.getfield 322, 3) := by decide +kernel
theorem d_M_count_45 : decode b_M_count 45 = .ok (.ireturn, 1) := by decide +kernel
theorem d_M_count_46 : decode b_M_count 46 = .ok (.aload_n 0, 1) := by decide +kernel
theorem d_M_count_47 : decode b_M_count 47 = .ok (.getfield 309, 3) := by decide +kernel
theorem d_M_count_50 : decode b_M_count 50 = .ok (.ireturn, 1) := by decide +kernel
theorem d_M_count_51 : decode b_M_count 51 = .ok (.aload_n 0, 1) := by decide +kernel
theorem d_M_count_52 : decode b_M_count 52 = .ok (.getfield 325, 3) := by decide +kernel
theorem d_M_count_55 : decode b_M_count 55 = .ok (.ireturn, 1) := by decide +kernel
theorem d_M_count_56 : decode b_M_count 56 = .ok (.iload_n 1, 1) := by decide +kernel
theorem d_M_count_57 : decode b_M_count 57 = .ok (.iconst 3, 1) := by decide +kernel
theorem d_M_count_58 : decode b_M_count 58 = .ok (.if_icmp .le 20, 3) := by decide +kernel
theorem d_M_count_61 : decode b_M_count 61 = .ok (.iload_n 1, 1) := by decide +kernel
theorem d_M_count_62 : decode b_M_count 62 = .ok (.bipush 10, 2) := by decide +kernel
theorem d_M_count_64 : decode b_M_count 64 = .ok (.if_icmp .ge 14, 3) := by decide +kernel
theorem d_M_count_67 : decode b_M_count 67 = .ok (.aload_n 0, 1) := by decide +kernel
theorem d_M_count_68 : decode b_M_count 68 = .ok (.getfield 23, 3) := by decide +kernel
theorem d_M_count_71 : decode b_M_count 71 = .ok (.iload_n 1, 1) := by decide +kernel
theorem d_M_count_72 : decode b_M_count 72 = .ok (.iconst 4, 1) := by decide +kernel
theorem d_M_count_73 : decode b_M_count 73 = .ok (.isub, 1) := by decide +kernel
theorem d_M_count_74 : decode b_M_count 74 = .ok (.iaload, 1) := by decide +kernel
theorem d_M_count_75 : decode b_M_count 75 = .ok (.goto 4, 3) := by decide +kernel
theorem d_M_count_78 : decode b_M_count 78 = .ok (.iconst (-1), 1) := by decide +kernel
theorem d_M_count_79 : decode b_M_count 79 = .ok (.ireturn, 1) := by decide +kernel
