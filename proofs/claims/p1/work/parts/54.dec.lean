theorem d_Ro_growBy_0 : decode b_Ro_growBy 0 = .ok (.aload_n 0, 1) := by decide +kernel
theorem d_Ro_growBy_1 : decode b_Ro_growBy 1 = .ok (.getfield 15, 3) := by decide +kernel
theorem d_Ro_growBy_4 : decode b_Ro_growBy 4 = .ok (.iload_n 1, 1) := by decide +kernel
theorem d_Ro_growBy_5 : decode b_Ro_growBy 5 = .ok (.iadd, 1) := by decide +kernel
theorem d_Ro_growBy_6 : decode b_Ro_growBy 6 = .ok (.aload_n 0, 1) := by decide +kernel
theorem d_Ro_growBy_7 : decode b_Ro_growBy 7 = .ok (.getfield 11, 3) := by decide +kernel
theorem d_Ro_growBy_10 : decode b_Ro_growBy 10 = .ok (.arraylength, 1) := by decide +kernel
theorem d_Ro_growBy_11 : decode b_Ro_growBy 11 = .ok (.if_icmp .le 21, 3) := by decide +kernel
theorem d_Ro_growBy_14 : decode b_Ro_growBy 14 = .ok (.aload_n 0, 1) := by decide +kernel
theorem d_Ro_growBy_15 : decode b_Ro_growBy 15 = .ok (.aload_n 0, 1) := by decide +kernel
theorem d_Ro_growBy_16 : decode b_Ro_growBy 16 = .ok (.getfield 11, 3) := by decide +kernel
theorem d_Ro_growBy_19 : decode b_Ro_growBy 19 = .ok (.iconst 2, 1) := by decide +kernel
theorem d_Ro_growBy_20 : decode b_Ro_growBy 20 = .ok (.aload_n 0, 1) := by decide +kernel
theorem d_Ro_growBy_21 : decode b_Ro_growBy 21 = .ok (.getfield 11, 3) := by decide +kernel
theorem d_Ro_growBy_24 : decode b_Ro_growBy 24 = .ok (.arraylength, 1) := by decide +kernel
theorem d_Ro_growBy_25 : decode b_Ro_growBy 25 = .ok (.imul, 1) := by decide +kernel
theorem d_Ro_growBy_26 : decode b_Ro_growBy 26 = .ok (.invokestatic 30, 3) := by decide +kernel
theorem d_Ro_growBy_29 : decode b_Ro_growBy 29 = .ok (.putfield 11, 3) := by decide +kernel
theorem d_Ro_growBy_32 : decode b_Ro_growBy 32 = .ok (.return_, 1) := by decide +kernel
theorem d_Ro_hasRoomFor_0 : decode b_Ro_hasRoomFor 0 = .ok (.aload_n 0, 1) := by decide +kernel
theorem d_Ro_hasRoomFor_1 : decode b_Ro_hasRoomFor 1 = .ok (.getfield 15, 3) := by decide +kernel
theorem d_Ro_hasRoomFor_4 : decode b_Ro_hasRoomFor 4 = .ok (.iload_n 1, 1) := by decide +kernel
theorem d_Ro_hasRoomFor_5 : decode b_Ro_hasRoomFor 5 = .ok (.iadd, 1) := by decide +kernel
theorem d_Ro_hasRoomFor_6 : decode b_Ro_hasRoomFor 6 = .ok (.ldc 19, 2) := by decide +kernel
theorem d_Ro_hasRoomFor_8 : decode b_Ro_hasRoomFor 8 = .ok (.if_icmp .gt 7, 3) := by decide +kernel
theorem d_Ro_hasRoomFor_11 : decode b_Ro_hasRoomFor 11 = .ok (.iconst 1, 1) := by decide +kernel
theorem d_Ro_hasRoomFor_12 : decode b_Ro_hasRoomFor 12 = .ok (.goto 4, 3) := by decide +kernel
theorem d_Ro_hasRoomFor_15 : decode b_Ro_hasRoomFor 15 = .ok (.iconst 0, 1) := by decide +kernel
theorem d_Ro_hasRoomFor_16 : decode b_Ro_hasRoomFor 16 = .ok (.ireturn, 1) := by decide +kernel
theorem d_Ro_appendNumber_0 : decode b_Ro_appendNumber 0 = .ok (.aload_n 0, 1) := by decide +kernel
theorem d_Ro_appendNumber_1 : decode b_Ro_appendNumber 1 = .ok (.iconst 4, 1) := by decide +kernel
theorem d_Ro_appendNumber_2 : decode b_Ro_appendNumber 2 = .ok (.invokevirtual 20, 3) := by decide +kernel
theorem d_Ro_appendNumber_5 : decode b_Ro_appendNumber 5 = .ok (.aload_n 0, 1) := by decide +kernel
theorem d_Ro_appendNumber_6 : decode b_Ro_appendNumber 6 = .ok (.getfield 11, 3) := by decide +kernel
theorem d_Ro_appendNumber_9 : decode b_Ro_appendNumber 9 = .ok (.aload_n 0, 1) := by decide +kernel
theorem d_Ro_appendNumber_10 : decode b_Ro_appendNumber 10 = .ok (.getfield 15, 3) := by decide +kernel
theorem d_Ro_appendNumber_13 : decode b_Ro_appendNumber 13 = .ok (.iload_n 1, 1) := by decide +kernel
theorem d_Ro_appendNumber_14 : decode b_Ro_appendNumber 14 = .ok (.bipush 24, 2) := by decide +kernel
theorem d_Ro_appendNumber_16 : decode b_Ro_appendNumber 16 = .ok (.ishr, 1) := by decide +kernel
theorem d_Ro_appendNumber_17 : decode b_Ro_appendNumber 17 = .ok (.i2b, 1) := by decide +kernel
theorem d_Ro_appendNumber_18 : decode b_Ro_appendNumber 18 = .ok (.bastore, 1) := by decide +kernel
theorem d_Ro_appendNumber_19 : decode b_Ro_appendNumber 19 = .ok (.aload_n 0, 1) := by decide +kernel
theorem d_Ro_appendNumber_20 : decode b_Ro_appendNumber 20 = .ok (.getfield 11, 3) := by decide +kernel
theorem d_Ro_appendNumber_23 : decode b_Ro_appendNumber 23 = .ok (.aload_n 0, 1) := by decide +kernel
theorem d_Ro_appendNumber_24 : decode b_Ro_appendNumber 24 = .ok (.getfield 15, 3) := by decide +kernel
theorem d_Ro_appendNumber_27 : decode b_Ro_appendNumber 27 = .ok (.iconst 1, 1) := by decide +kernel
theorem d_Ro_appendNumber_28 : decode b_Ro_appendNumber 28 = .ok (.iadd, 1) := by decide +kernel
theorem d_Ro_appendNumber_29 : decode b_Ro_appendNumber 29 = .ok (.iload_n 1, 1) := by decide +kernel
theorem d_Ro_appendNumber_30 : decode b_Ro_appendNumber 30 = .ok (.bipush 16, 2) := by decide +kernel
theorem d_Ro_appendNumber_32 : decode b_Ro_appendNumber 32 = .ok (.ishr, 1) := by decide +kernel
theorem d_Ro_appendNumber_33 : decode b_Ro_appendNumber 33 = .ok (.i2b, 1) := by decide +kernel
theorem d_Ro_appendNumber_34 : decode b_Ro_appendNumber 34 = .ok (.bastore, 1) := by decide +kernel
theorem d_Ro_appendNumber_35 : decode b_Ro_appendNumber 35 = .ok (.aload_n 0, 1) := by decide +kernel
theorem d_Ro_appendNumber_36 : decode b_Ro_appendNumber 36 = .ok (.getfield 11, 3) := by decide +kernel
theorem d_Ro_appendNumber_39 : decode b_Ro_appendNumber 39 = .ok (.aload_n 0, 1) := by decide +kernel
theorem d_Ro_appendNumber_40 : decode b_Ro_appendNumber 40 = .ok (.getfield 15, 3) := by decide +kernel
theorem d_Ro_appendNumber_43 : decode b_Ro_appendNumber 43 = .ok (.iconst 2, 1) := by decide +kernel
theorem d_Ro_appendNumber_44 : decode b_Ro_appendNumber 44 = .ok (.iadd, 1) := by decide +kernel
theorem d_Ro_appendNumber_45 : decode b_Ro_appendNumber 45 = .ok (.iload_n 1, 1) := by decide +kernel
theorem d_Ro_appendNumber_46 : decode b_Ro_appendNumber 46 = .ok (.bipush 8, 2) := by decide +kernel
theorem d_Ro_appendNumber_48 : decode b_Ro_appendNumber 48 = .ok (.ishr, 1) := by decide +kernel
theorem d_Ro_appendNumber_49 : decode b_Ro_appendNumber 49 = .ok (.i2b, 1) := by decide +kernel
theorem d_Ro_appendNumber_50 : decode b_Ro_appendNumber 50 = .ok (.bastore, 1) := by decide +kernel
theorem d_Ro_appendNumber_51 : decode b_Ro_appendNumber 51 = .ok (.aload_n 0, 1) := by decide +kernel
theorem d_Ro_appendNumber_52 : decode b_Ro_appendNumber 52 = .ok (.getfield 11, 3) := by decide +kernel
theorem d_Ro_appendNumber_55 : decode b_Ro_appendNumber 55 = .ok (.aload_n 0, 1) := by decide +kernel
theorem d_Ro_appendNumber_56 : decode b_Ro_appendNumber 56 = .ok (.getfield 15, 3) := by decide +kernel
theorem d_Ro_appendNumber_59 : decode b_Ro_appendNumber 59 = .ok (.iconst 3, 1) := by decide +kernel
theorem d_Ro_appendNumber_60 : decode b_Ro_appendNumber 60 = .ok (.iadd, 1) := by decide +kernel
theorem d_Ro_appendNumber_61 : decode b_Ro_appendNumber 61 = .ok (.iload_n 1, 1) := by decide +kernel
theorem d_Ro_appendNumber_62 : decode b_Ro_appendNumber 62 = .ok (.i2b, 1) := by decide +kernel
theorem d_Ro_appendNumber_63 : decode b_Ro_appendNumber 63 = .ok (.bastore, 1) := by decide +kernel
theorem d_Ro_appendNumber_64 : decode b_Ro_appendNumber 64 = .ok (.aload_n 0, 1) := by decide +kernel
theorem d_Ro_appendNumber_65 : decode b_Ro_appendNumber 65 = .ok (.dup, 1) := by decide +kernel
theorem d_Ro_appendNumber_66 : decode b_Ro_appendNumber 66 = .ok (.getfield 15, 3) := by decide +kernel
theorem d_Ro_appendNumber_69 : decode b_Ro_appendNumber 69 = .ok (.iconst 4, 1) := by decide +kernel
theorem d_Ro_appendNumber_70 : decode b_Ro_appendNumber 70 = .ok (.iadd, 1) := by decide +kernel
theorem d_Ro_appendNumber_71 : decode b_Ro_appendNumber 71 = .ok (.putfield 15, 3) := by decide +kernel
theorem d_Ro_appendNumber_74 : decode b_Ro_appendNumber 74 = .ok (.return_, 1) := by decide +kernel
theorem d_Ro_append_0 : decode b_Ro_append 0 = .ok (.aload_n 0, 1) := by decide +kernel
theorem d_Ro_append_1 : decode b_Ro_append 1 = .ok (.iload_n 2, 1) := by decide +kernel
theorem d_Ro_append_2 : decode b_Ro_append 2 = .ok (.invokevirtual 20, 3) := by decide +kernel
theorem d_Ro_append_5 : decode b_Ro_append 5 = .ok (.aload_n 1, 1) := by decide +kernel
theorem d_Ro_append_6 : decode b_Ro_append 6 = .ok (.iconst 0, 1) := by decide +kernel
theorem d_Ro_append_7 : decode b_Ro_append 7 = .ok (.aload_n 0, 1) := by decide +kernel
theorem d_Ro_append_8 : decode b_Ro_append 8 = .ok (.getfield 11, 3) := by decide +kernel
theorem d_Ro_append_11 : decode b_Ro_append 11 = .ok (.aload_n 0, 1) := by decide +kernel
theorem d_Ro_append_12 : decode b_Ro_append 12 = .ok (.getfield 15, 3) := by decide +kernel
theorem d_Ro_append_15 : decode b_Ro_append 15 = .ok (.iload_n 2, 1) := by decide +kernel
theorem d_Ro_append_16 : decode b_Ro_append 16 = .ok (.invokestatic 24, 3) := by decide +kernel
theorem d_Ro_append_19 : decode b_Ro_append 19 = .ok (.aload_n 0, 1) := by decide +kernel
theorem d_Ro_append_20 : decode b_Ro_append 20 = .ok (.dup, 1) := by decide +kernel
theorem d_Ro_append_21 : decode b_Ro_append 21 = .ok (.getfield 15, 3) := by decide +kernel
theorem d_Ro_append_24 : decode b_Ro_append 24 = .ok (.iload_n 2, 1) := by decide +kernel
theorem d_Ro_append_25 : decode b_Ro_append 25 = .ok (.iadd, 1) := by decide +kernel
theorem d_Ro_append_26 : decode b_Ro_append 26 = .ok (.putfield 15, 3) := by decide +kernel
theorem d_Ro_append_29 : decode b_Ro_append 29 = .ok (.return_, 1) := by decide +kernel
theorem d_K_feed_0 : decode b_K_feed 0 = .ok (.aload_n 0, 1) := by decide +kernel
theorem d_K_feed_1 : decode b_K_feed 1 = .ok (.getfield 54, 3) := by decide +kernel
theorem d_K_feed_4 : decode b_K_feed 4 = .ok (.bipush 20, 2) := by decide +kernel
theorem d_K_feed_6 : decode b_K_feed 6 = .ok (.invokevirtual 61, 3) := by decide +kernel
theorem d_K_feed_9 : decode b_K_feed 9 = .ok (.ifCond .ne 13, 3) := by decide +kernel
theorem d_K_feed_12 : decode b_K_feed 12 = .ok (.new 65, 3) := by decide +kernel
theorem d_K_feed_15 : decode b_K_feed 15 = .ok (.dup, 1) := by decide +kernel
theorem d_K_feed_16 : decode b_K_feed 16 = .ok (.ldc 67, 2) := by decide +kernel
theorem d_K_feed_18 : decode b_K_feed 18 = .ok (.invokespecial 69, 3) := by decide +kernel
theorem d_K_feed_21 : decode b_K_feed 21 = .ok (.athrow, 1) := by decide +kernel
theorem d_K_feed_22 : decode b_K_feed 22 = .ok (.aload_n 0, 1) := by decide +kernel
theorem d_K_feed_23 : decode b_K_feed 23 = .ok (.getfield 54, 3) := by decide +kernel
theorem d_K_feed_26 : decode b_K_feed 26 = .ok (.iload_n 1, 1) := by decide +kernel
theorem d_K_feed_27 : decode b_K_feed 27 = .ok (.invokevirtual 72, 3) := by decide +kernel
theorem d_K_feed_30 : decode b_K_feed 30 = .ok (.aload_n 0, 1) := by decide +kernel
theorem d_K_feed_31 : decode b_K_feed 31 = .ok (.getfield 54, 3) := by decide +kernel
theorem d_K_feed_34 : decode b_K_feed 34 = .ok (.iload_n 2, 1) := by decide +kernel
theorem d_K_feed_35 : decode b_K_feed 35 = .ok (.invokevirtual 72, 3) := by decide +kernel
theorem d_K_feed_38 : decode b_K_feed 38 = .ok (.aload_n 0, 1) := by decide +kernel
theorem d_K_feed_39 : decode b_K_feed 39 = .ok (.getfield 54, 3) := by decide +kernel
theorem d_K_feed_42 : decode b_K_feed 42 = .ok (.iload_n 3, 1) := by decide +kernel
theorem d_K_feed_43 : decode b_K_feed 43 = .ok (.invokevirtual 72, 3) := by decide +kernel
theorem d_K_feed_46 : decode b_K_feed 46 = .ok (.aload_n 0, 1) := by decide +kernel
theorem d_K_feed_47 : decode b_K_feed 47 = .ok (.getfield 54, 3) := by decide +kernel
theorem d_K_feed_50 : decode b_K_feed 50 = .ok (.iload 4, 2) := by decide +kernel
theorem d_K_feed_52 : decode b_K_feed 52 = .ok (.invokevirtual 72, 3) := by decide +kernel
theorem d_K_feed_55 : decode b_K_feed 55 = .ok (.aload_n 0, 1) := by decide +kernel
theorem d_K_feed_56 : decode b_K_feed 56 = .ok (.getfield 54, 3) := by decide +kernel
theorem d_K_feed_59 : decode b_K_feed 59 = .ok (.iload 5, 2) := by decide +kernel
theorem d_K_feed_61 : decode b_K_feed 61 = .ok (.invokevirtual 72, 3) := by decide +kernel
theorem d_K_feed_64 : decode b_K_feed 64 = .ok (.aload_n 0, 1) := by decide +kernel
theorem d_K_feed_65 : decode b_K_feed 65 = .ok (.getfield 54, 3) := by decide +kernel
theorem d_K_feed_68 : decode b_K_feed 68 = .ok (.getfield 76, 3) := by decide +kernel
theorem d_K_feed_71 : decode b_K_feed 71 = .ok (.ireturn, 1) := by decide +kernel
theorem d_K_end_0 : decode b_K_end 0 = .ok (.iload_n 1, 1) := by decide +kernel
theorem d_K_end_1 : decode b_K_end 1 = .ok (.ifCond .lt 14, 3) := by decide +kernel
theorem d_K_end_4 : decode b_K_end 4 = .ok (.iload_n 1, 1) := by decide +kernel
theorem d_K_end_5 : decode b_K_end 5 = .ok (.aload_n 0, 1) := by decide +kernel
theorem d_K_end_6 : decode b_K_end 6 = .ok (.getfield 54, 3) := by decide +kernel
theorem d_K_end_9 : decode b_K_end 9 = .ok (.getfield 76, 3) := by decide +kernel
theorem d_K_end_12 : decode b_K_end 12 = .ok (.if_icmp .le 13, 3) := by decide +kernel
theorem d_K_end_15 : decode b_K_end 15 = .ok (.new 80, 3) := by decide +kernel
theorem d_K_end_18 : decode b_K_end 18 = .ok (.dup, 1) := by decide +kernel
theorem d_K_end_19 : decode b_K_end 19 = .ok (.ldc 82, 2) := by decide +kernel
theorem d_K_end_21 : decode b_K_end 21 = .ok (.invokespecial 84, 3) := by decide +kernel
theorem d_K_end_24 : decode b_K_end 24 = .ok (.athrow, 1) := by decide +kernel
theorem d_K_end_25 : decode b_K_end 25 = .ok (.aload_n 0, 1) := by decide +kernel
theorem d_K_end_26 : decode b_K_end 26 = .ok (.getfield 54, 3) := by decide +kernel
theorem d_K_end_29 : decode b_K_end 29 = .ok (.iload_n 1, 1) := by decide +kernel
theorem d_K_end_30 : decode b_K_end 30 = .ok (.putfield 76, 3) := by decide +kernel
theorem d_K_end_33 : decode b_K_end 33 = .ok (.iload_n 1, 1) := by decide +kernel
theorem d_K_end_34 : decode b_K_end 34 = .ok (.ireturn, 1) := by decide +kernel
theorem d_K_message_0 : decode b_K_message 0 = .ok (.aload_n 0, 1) := by decide +kernel
theorem d_K_message_1 : decode b_K_message 1 = .ok (.getfield 54, 3) := by decide +kernel
theorem d_K_message_4 : decode b_K_message 4 = .ok (.astore_n 1, 1) := by decide +kernel
theorem d_K_message_5 : decode b_K_message 5 = .ok (.aload_n 0, 1) := by decide +kernel
theorem d_K_message_6 : decode b_K_message 6 = .ok (.aload_n 0, 1) := by decide +kernel
theorem d_K_message_7 : decode b_K_message 7 = .ok (.getfield 58, 3) := by decide +kernel
theorem d_K_message_10 : decode b_K_message 10 = .ok (.putfield 54, 3) := by decide +kernel
theorem d_K_message_13 : decode b_K_message 13 = .ok (.aload_n 0, 1) := by decide +kernel
theorem d_K_message_14 : decode b_K_message 14 = .ok (.getfield 54, 3) := by decide +kernel
theorem d_K_message_17 : decode b_K_message 17 = .ok (.iconst 0, 1) := by decide +kernel
theorem d_K_message_18 : decode b_K_message 18 = .ok (.putfield 76, 3) := by decide +kernel
theorem d_K_message_21 : decode b_K_message 21 = .ok (.aload_n 0, 1) := by decide +kernel
theorem d_K_message_22 : decode b_K_message 22 = .ok (.aload_n 1, 1) := by decide +kernel
theorem d_K_message_23 : decode b_K_message 23 = .ok (.putfield 58, 3) := by decide +kernel
theorem d_K_message_26 : decode b_K_message 26 = .ok (.aload_n 0, 1) := by decide +kernel
theorem d_K_message_27 : decode b_K_message 27 = .ok (.getfield 58, 3) := by decide +kernel
theorem d_K_message_30 : decode b_K_message 30 = .ok (.getfield 76, 3) := by decide +kernel
theorem d_K_message_33 : decode b_K_message 33 = .ok (.ireturn, 1) := by decide +kernel
theorem d_K_back_0 : decode b_K_back 0 = .ok (.iload_n 1, 1) := by decide +kernel
theorem d_K_back_1 : decode b_K_back 1 = .ok (.iconst (-1), 1) := by decide +kernel
theorem d_K_back_2 : decode b_K_back 2 = .ok (.if_icmp .lt 11, 3) := by decide +kernel
theorem d_K_back_5 : decode b_K_back 5 = .ok (.iload_n 1, 1) := by decide +kernel
theorem d_K_back_6 : decode b_K_back 6 = .ok (.aload_n 0, 1) := by decide +kernel
theorem d_K_back_7 : decode b_K_back 7 = .ok (.getfield 123, 3) := by decide +kernel
theorem d_K_back_10 : decode b_K_back 10 = .ok (.if_icmp .lt 13, 3) := by decide +kernel
theorem d_K_back_13 : decode b_K_back 13 = .ok (.new 155, 3) := by decide +kernel
theorem d_K_back_16 : decode b_K_back 16 = .ok (.dup, 1) := by decide +kernel
theorem d_K_back_17 : decode b_K_back 17 = .ok (.ldc 157, 2) := by decide +kernel
theorem d_K_back_19 : decode b_K_back 19 = .ok (.invokespecial 159, 3) := by decide +kernel
theorem d_K_back_22 : decode b_K_back 22 = .ok (.athrow, 1) := by decide +kernel
theorem d_K_back_23 : decode b_K_back 23 = .ok (.aload_n 0, 1) := by decide +kernel
theorem d_K_back_24 : decode b_K_back 24 = .ok (.getfield 54, 3) := by decide +kernel
theorem d_K_back_27 : decode b_K_back 27 = .ok (.aload_n 0, 1) := by decide +kernel
theorem d_K_back_28 : decode b_K_back 28 = .ok (.getfield 123, 3) := by decide +kernel
theorem d_K_back_31 : decode b_K_back 31 = .ok (.invokevirtual 61, 3) := by decide +kernel
theorem d_K_back_34 : decode b_K_back 34 = .ok (.ifCond .ne 13, 3) := by decide +kernel
theorem d_K_back_37 : decode b_K_back 37 = .ok (.new 65, 3) := by decide +kernel
theorem d_K_back_40 : decode b_K_back 40 = .ok (.dup, 1) := by decide +kernel
theorem d_K_back_41 : decode b_K_back 41 = .ok (.ldc 160, 2) := by decide +kernel
theorem d_K_back_43 : decode b_K_back 43 = .ok (.invokespecial 69, 3) := by decide +kernel
theorem d_K_back_46 : decode b_K_back 46 = .ok (.athrow, 1) := by decide +kernel
theorem d_K_back_47 : decode b_K_back 47 = .ok (.aload_n 0, 1) := by decide +kernel
theorem d_K_back_48 : decode b_K_back 48 = .ok (.getfield 54, 3) := by decide +kernel
theorem d_K_back_51 : decode b_K_back 51 = .ok (.getfield 76, 3) := by decide +kernel
theorem d_K_back_54 : decode b_K_back 54 = .ok (.istore_n 3, 1) := by decide +kernel
theorem d_K_back_55 : decode b_K_back 55 = .ok (.aload_n 0, 1) := by decide +kernel
theorem d_K_back_56 : decode b_K_back 56 = .ok (.getfield 54, 3) := by decide +kernel
theorem d_K_back_59 : decode b_K_back 59 = .ok (.aload_n 0, 1) := by decide +kernel
theorem d_K_back_60 : decode b_K_back 60 = .ok (.getfield 18, 3) := by decide +kernel
theorem d_K_back_63 : decode b_K_back 63 = .ok (.aload_n 0, 1) := by decide +kernel
theorem d_K_back_64 : decode b_K_back 64 = .ok (.getfield 123, 3) := by decide +kernel
theorem d_K_back_67 : decode b_K_back 67 = .ok (.invokevirtual 162, 3) := by decide +kernel
theorem d_K_back_70 : decode b_K_back 70 = .ok (.iload_n 1, 1) := by decide +kernel
theorem d_K_back_71 : decode b_K_back 71 = .ok (.ifCond .lt 20, 3) := by decide +kernel
theorem d_K_back_74 : decode b_K_back 74 = .ok (.aload_n 0, 1) := by decide +kernel
theorem d_K_back_75 : decode b_K_back 75 = .ok (.getfield 54, 3) := by decide +kernel
theorem d_K_back_78 : decode b_K_back 78 = .ok (.getfield 94, 3) := by decide +kernel
theorem d_K_back_81 : decode b_K_back 81 = .ok (.iload_n 3, 1) := by decide +kernel
theorem d_K_back_82 : decode b_K_back 82 = .ok (.iload_n 1, 1) := by decide +kernel
theorem d_K_back_83 : decode b_K_back 83 = .ok (.iadd, 1) := by decide +kernel
theorem d_K_back_84 : decode b_K_back 84 = .ok (.dup2, 1) := by decide +kernel
theorem d_K_back_85 : decode b_K_back 85 = .ok (.baload, 1) := by decide +kernel
theorem d_K_back_86 : decode b_K_back 86 = .ok (.iload_n 2, 1) := by decide +kernel
theorem d_K_back_87 : decode b_K_back 87 = .ok (.i2b, 1) := by decide +kernel
theorem d_K_back_88 : decode b_K_back 88 = .ok (.ixor, 1) := by decide +kernel
theorem d_K_back_89 : decode b_K_back 89 = .ok (.i2b, 1) := by decide +kernel
theorem d_K_back_90 : decode b_K_back 90 = .ok (.bastore, 1) := by decide +kernel
theorem d_K_back_91 : decode b_K_back 91 = .ok (.aload_n 0, 1) := by decide +kernel
theorem d_K_back_92 : decode b_K_back 92 = .ok (.getfield 54, 3) := by decide +kernel
theorem d_K_back_95 : decode b_K_back 95 = .ok (.getfield 76, 3) := by decide +kernel
theorem d_K_back_98 : decode b_K_back 98 = .ok (.ireturn, 1) := by decide +kernel
