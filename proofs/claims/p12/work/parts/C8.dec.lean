theorem d_K_requireTape_0 : decode b_K_requireTape 0 = .ok (.aload_n 0, 1) := by decide +kernel
theorem d_K_requireTape_1 : decode b_K_requireTape 1 = .ok (.getfield 54, 3) := by decide +kernel
theorem d_K_requireTape_4 : decode b_K_requireTape 4 = .ok (.getfield 76, 3) := by decide +kernel
theorem d_K_requireTape_7 : decode b_K_requireTape 7 = .ok (.iload_n 1, 1) := by decide +kernel
theorem d_K_requireTape_8 : decode b_K_requireTape 8 = .ok (.if_icmp .eq 13, 3) := by decide +kernel
theorem d_K_requireTape_11 : decode b_K_requireTape 11 = .ok (.new 80, 3) := by decide +kernel
theorem d_K_requireTape_14 : decode b_K_requireTape 14 = .ok (.dup, 1) := by decide +kernel
theorem d_K_requireTape_15 : decode b_K_requireTape 15 = .ok (.ldc 171, 2) := by decide +kernel
theorem d_K_requireTape_17 : decode b_K_requireTape 17 = .ok (.invokespecial 84, 3) := by decide +kernel
theorem d_K_requireTape_20 : decode b_K_requireTape 20 = .ok (.athrow, 1) := by decide +kernel
theorem d_K_requireTape_21 : decode b_K_requireTape 21 = .ok (.return_, 1) := by decide +kernel
theorem d_K_end_0 : decode b_K_end 0 = .ok (.iload_n 1, 1) := by decide +kernel
theorem d_K_end_1 : decode b_K_end 1 = .ok (.ifCond .lt 14, 3) := by decide +kernel
theorem d_K_end_4 : decode b_K_end 4 = .ok (.iload_n 1, 1) := by decide +kernel
theorem d_K_end_5 : decode b_K_end 5 = .ok (.aload_n 0, 1) := by decide +kernel
theorem d_K_end_6 : decode b_K_end 6 = .ok (.getfield 54, 3) := by decide +kernel
theorem d_K_end_9 : decode b_K_end 9 = .ok (.getfield 76, 3) := by decide +kernel
theorem d_K_end_12 : decode b_K_end 12 = .ok (.if_icmp .le 13, 3) := by decide +kernel
theorem d_K_end_15 : decode b_K_end 15 = .ok (.new 80, 3) := by decide +kernel
theorem d_K_end_18 : decode b_K_end 18 = .ok (.dup, 1) := by decide +kernel
theorem d_K_end_19 : decode b_K_end 19 = .ok (.ldc 82, 2) := by decide +kernel
theorem d_K_end_21 : decode b_K_end 21 = .ok (.invokespecial 84, 3) := by decide +kernel
theorem d_K_end_24 : decode b_K_end 24 = .ok (.athrow, 1) := by decide +kernel
theorem d_K_end_25 : decode b_K_end 25 = .ok (.aload_n 0, 1) := by decide +kernel
theorem d_K_end_26 : decode b_K_end 26 = .ok (.getfield 54, 3) := by decide +kernel
theorem d_K_end_29 : decode b_K_end 29 = .ok (.iload_n 1, 1) := by decide +kernel
theorem d_K_end_30 : decode b_K_end 30 = .ok (.putfield 76, 3) := by decide +kernel
theorem d_K_end_33 : decode b_K_end 33 = .ok (.iload_n 1, 1) := by decide +kernel
theorem d_K_end_34 : decode b_K_end 34 = .ok (.ireturn, 1) := by decide +kernel
theorem d_K_message_0 : decode b_K_message 0 = .ok (.aload_n 0, 1) := by decide +kernel
theorem d_K_message_1 : decode b_K_message 1 = .ok (.getfield 54, 3) := by decide +kernel
theorem d_K_message_4 : decode b_K_message 4 = .ok (.astore_n 1, 1) := by decide +kernel
theorem d_K_message_5 : decode b_K_message 5 = .ok (.aload_n 0, 1) := by decide +kernel
theorem d_K_message_6 : decode b_K_message 6 = .ok (.aload_n 0, 1) := by decide +kernel
theorem d_K_message_7 : decode b_K_message 7 = .ok (.getfield 58, 3) := by decide +kernel
theorem d_K_message_10 : decode b_K_message 10 = .ok (.putfield 54, 3) := by decide +kernel
theorem d_K_message_13 : decode b_K_message 13 = .ok (.aload_n 0, 1) := by decide +kernel
theorem d_K_message_14 : decode b_K_message 14 = .ok (.getfield 54, 3) := by decide +kernel
theorem d_K_message_17 : decode b_K_message 17 = .ok (.iconst 0, 1) := by decide +kernel
theorem d_K_message_18 : decode b_K_message 18 = .ok (.putfield 76, 3) := by decide +kernel
theorem d_K_message_21 : decode b_K_message 21 = .ok (.aload_n 0, 1) := by decide +kernel
theorem d_K_message_22 : decode b_K_message 22 = .ok (.aload_n 1, 1) := by decide +kernel
theorem d_K_message_23 : decode b_K_message 23 = .ok (.putfield 58, 3) := by decide +kernel
theorem d_K_message_26 : decode b_K_message 26 = .ok (.aload_n 0, 1) := by decide +kernel
theorem d_K_message_27 : decode b_K_message 27 = .ok (.getfield 58, 3) := by decide +kernel
theorem d_K_message_30 : decode b_K_message 30 = .ok (.getfield 76, 3) := by decide +kernel
theorem d_K_message_33 : decode b_K_message 33 = .ok (.ireturn, 1) := by decide +kernel
theorem d_K_result_0 : decode b_K_result 0 = .ok (.iload_n 1, 1) := by decide +kernel
theorem d_K_result_1 : decode b_K_result 1 = .ok (.ifCond .lt 11, 3) := by decide +kernel
theorem d_K_result_4 : decode b_K_result 4 = .ok (.iload_n 1, 1) := by decide +kernel
theorem d_K_result_5 : decode b_K_result 5 = .ok (.aload_n 0, 1) := by decide +kernel
theorem d_K_result_6 : decode b_K_result 6 = .ok (.getfield 123, 3) := by decide +kernel
theorem d_K_result_9 : decode b_K_result 9 = .ok (.if_icmp .lt 13, 3) := by decide +kernel
theorem d_K_result_12 : decode b_K_result 12 = .ok (.new 155, 3) := by decide +kernel
theorem d_K_result_15 : decode b_K_result 15 = .ok (.dup, 1) := by decide +kernel
theorem d_K_result_16 : decode b_K_result 16 = .ok (.ldc 157, 2) := by decide +kernel
theorem d_K_result_18 : decode b_K_result 18 = .ok (.invokespecial 159, 3) := by decide +kernel
theorem d_K_result_21 : decode b_K_result 21 = .ok (.athrow, 1) := by decide +kernel
theorem d_K_result_22 : decode b_K_result 22 = .ok (.aload_n 0, 1) := by decide +kernel
theorem d_K_result_23 : decode b_K_result 23 = .ok (.getfield 18, 3) := by decide +kernel
theorem d_K_result_26 : decode b_K_result 26 = .ok (.iload_n 1, 1) := by decide +kernel
theorem d_K_result_27 : decode b_K_result 27 = .ok (.baload, 1) := by decide +kernel
theorem d_K_result_28 : decode b_K_result 28 = .ok (.sipush 255, 3) := by decide +kernel
theorem d_K_result_31 : decode b_K_result 31 = .ok (.iand, 1) := by decide +kernel
theorem d_K_result_32 : decode b_K_result 32 = .ok (.ireturn, 1) := by decide +kernel
theorem d_K_count_0 : decode b_K_count 0 = .ok (.iload_n 1, 1) := by decide +kernel
theorem d_K_count_1 : decode b_K_count 1 = .ok (.tableswitch 100 0 9 #[55, 63, 68, 76, 81, 86, 86, 86, 86, 95], 55) := by decide +kernel
theorem d_K_count_56 : decode b_K_count 56 = .ok (.aload_n 0, 1) := by decide +kernel
theorem d_K_count_57 : decode b_K_count 57 = .ok (.getfield 54, 3) := by decide +kernel
theorem d_K_count_60 : decode b_K_count 60 = .ok (.getfield 76, 3) := by decide +kernel
theorem d_K_count_63 : decode b_K_count 63 = .ok (.ireturn, 1) := by decide +kernel
theorem d_K_count_64 : decode b_K_count 64 = .ok (.aload_n 0, 1) := by decide +kernel
theorem d_K_count_65 : decode b_K_count 65 = .ok (.getfield 88, 3) := by decide +kernel
theorem d_K_count_68 : decode b_K_count 68 = .ok (.ireturn, 1) := by decide +kernel
theorem d_K_count_69 : decode b_K_count 69 = .ok (.aload_n 0, 1) := by decide +kernel
theorem d_K_count_70 : decode b_K_count 70 = .ok (.getfield 58, 3) := by decide +kernel
theorem d_K_count_73 : decode b_K_count 73 = .ok (.getfield 76, 3) := by decide +kernel
theorem d_K_count_76 : decode b_K_count 76 = .ok (.ireturn, 1) := by decide +kernel
theorem d_K_count_77 : decode b_K_count 77 = .ok (.aload_n 0, 1) := by decide +kernel
theorem d_K_count_78 : decode b_K_count 78 = .ok (.getfield 123, 3) := by decide +kernel
theorem d_K_count_81 : decode b_K_count 81 = .ok (.ireturn, 1) := by decide +kernel
theorem d_K_count_82 : decode b_K_count 82 = .ok (.aload_n 0, 1) := by decide +kernel
theorem d_K_count_83 : decode b_K_count 83 = .ok (.getfield 141, 3) := by decide +kernel
theorem d_K_count_86 : decode b_K_count 86 = .ok (.ireturn, 1) := by decide +kernel
theorem d_K_count_87 : decode b_K_count 87 = .ok (.aload_n 0, 1) := by decide +kernel
theorem d_K_count_88 : decode b_K_count 88 = .ok (.getfield 22, 3) := by decide +kernel
theorem d_K_count_91 : decode b_K_count 91 = .ok (.iload_n 1, 1) := by decide +kernel
theorem d_K_count_92 : decode b_K_count 92 = .ok (.iconst 5, 1) := by decide +kernel
theorem d_K_count_93 : decode b_K_count 93 = .ok (.isub, 1) := by decide +kernel
theorem d_K_count_94 : decode b_K_count 94 = .ok (.iaload, 1) := by decide +kernel
theorem d_K_count_95 : decode b_K_count 95 = .ok (.ireturn, 1) := by decide +kernel
theorem d_K_count_96 : decode b_K_count 96 = .ok (.aload_n 0, 1) := by decide +kernel
theorem d_K_count_97 : decode b_K_count 97 = .ok (.getfield 134, 3) := by decide +kernel
theorem d_K_count_100 : decode b_K_count 100 = .ok (.ireturn, 1) := by decide +kernel
theorem d_K_count_101 : decode b_K_count 101 = .ok (.iconst (-1), 1) := by decide +kernel
theorem d_K_count_102 : decode b_K_count 102 = .ok (.ireturn, 1) := by decide +kernel
theorem d_K_feed_0 : decode b_K_feed 0 = .ok (.aload_n 0, 1) := by decide +kernel
theorem d_K_feed_1 : decode b_K_feed 1 = .ok (.getfield 54, 3) := by decide +kernel
theorem d_K_feed_4 : decode b_K_feed 4 = .ok (.bipush 20, 2) := by decide +kernel
theorem d_K_feed_6 : decode b_K_feed 6 = .ok (.invokevirtual 61, 3) := by decide +kernel
theorem d_K_feed_9 : decode b_K_feed 9 = .ok (.ifCond .ne 13, 3) := by decide +kernel
theorem d_K_feed_12 : decode b_K_feed 12 = .ok (.new 65, 3) := by decide +kernel
theorem d_K_feed_15 : decode b_K_feed 15 = .ok (.dup, 1) := by decide +kernel
theorem d_K_feed_16 : decode b_K_feed 16 = .ok (.ldc 67, 2) := by decide +kernel
theorem d_K_feed_18 : decode b_K_feed 18 = .ok (.invokespecial 69, 3) := by decide +kernel
theorem d_K_feed_21 : decode b_K_feed 21 = .ok (.athrow, 1) := by decide +kernel
theorem d_K_feed_22 : decode b_K_feed 22 = .ok (.aload_n 0, 1) := by decide +kernel
theorem d_K_feed_23 : decode b_K_feed 23 = .ok (.getfield 54, 3) := by decide +kernel
theorem d_K_feed_26 : decode b_K_feed 26 = .ok (.iload_n 1, 1) := by decide +kernel
theorem d_K_feed_27 : decode b_K_feed 27 = .ok (.invokevirtual 72, 3) := by decide +kernel
theorem d_K_feed_30 : decode b_K_feed 30 = .ok (.aload_n 0, 1) := by decide +kernel
theorem d_K_feed_31 : decode b_K_feed 31 = .ok (.getfield 54, 3) := by decide +kernel
theorem d_K_feed_34 : decode b_K_feed 34 = .ok (.iload_n 2, 1) := by decide +kernel
theorem d_K_feed_35 : decode b_K_feed 35 = .ok (.invokevirtual 72, 3) := by decide +kernel
theorem d_K_feed_38 : decode b_K_feed 38 = .ok (.aload_n 0, 1) := by decide +kernel
theorem d_K_feed_39 : decode b_K_feed 39 = .ok (.getfield 54, 3) := by decide +kernel
theorem d_K_feed_42 : decode b_K_feed 42 = .ok (.iload_n 3, 1) := by decide +kernel
theorem d_K_feed_43 : decode b_K_feed 43 = .ok (.invokevirtual 72, 3) := by decide +kernel
theorem d_K_feed_46 : decode b_K_feed 46 = .ok (.aload_n 0, 1) := by decide +kernel
theorem d_K_feed_47 : decode b_K_feed 47 = .ok (.getfield 54, 3) := by decide +kernel
theorem d_K_feed_50 : decode b_K_feed 50 = .ok (.iload 4, 2) := by decide +kernel
theorem d_K_feed_52 : decode b_K_feed 52 = .ok (.invokevirtual 72, 3) := by decide +kernel
theorem d_K_feed_55 : decode b_K_feed 55 = .ok (.aload_n 0, 1) := by decide +kernel
theorem d_K_feed_56 : decode b_K_feed 56 = .ok (.getfield 54, 3) := by decide +kernel
theorem d_K_feed_59 : decode b_K_feed 59 = .ok (.iload 5, 2) := by decide +kernel
theorem d_K_feed_61 : decode b_K_feed 61 = .ok (.invokevirtual 72, 3) := by decide +kernel
theorem d_K_feed_64 : decode b_K_feed 64 = .ok (.aload_n 0, 1) := by decide +kernel
theorem d_K_feed_65 : decode b_K_feed 65 = .ok (.getfield 54, 3) := by decide +kernel
theorem d_K_feed_68 : decode b_K_feed 68 = .ok (.getfield 76, 3) := by decide +kernel
theorem d_K_feed_71 : decode b_K_feed 71 = .ok (.ireturn, 1) := by decide +kernel
