theorem d_K_existingKey_0 : decode b_K_existingKey 0 = .ok (.iload_n 1, 1) := by decide +kernel
theorem d_K_existingKey_1 : decode b_K_existingKey 1 = .ok (.ifCond .lt 11, 3) := by decide +kernel
theorem d_K_existingKey_4 : decode b_K_existingKey 4 = .ok (.iload_n 1, 1) := by decide +kernel
theorem d_K_existingKey_5 : decode b_K_existingKey 5 = .ok (.aload_n 0, 1) := by decide +kernel
theorem d_K_existingKey_6 : decode b_K_existingKey 6 = .ok (.getfield 88, 3) := by decide +kernel
theorem d_K_existingKey_9 : decode b_K_existingKey 9 = .ok (.if_icmp .lt 13, 3) := by decide +kernel
theorem d_K_existingKey_12 : decode b_K_existingKey 12 = .ok (.new 166, 3) := by decide +kernel
theorem d_K_existingKey_15 : decode b_K_existingKey 15 = .ok (.dup, 1) := by decide +kernel
theorem d_K_existingKey_16 : decode b_K_existingKey 16 = .ok (.ldc 168, 2) := by decide +kernel
theorem d_K_existingKey_18 : decode b_K_existingKey 18 = .ok (.invokespecial 170, 3) := by decide +kernel
theorem d_K_existingKey_21 : decode b_K_existingKey 21 = .ok (.athrow, 1) := by decide +kernel
theorem d_K_existingKey_22 : decode b_K_existingKey 22 = .ok (.aload_n 0, 1) := by decide +kernel
theorem d_K_existingKey_23 : decode b_K_existingKey 23 = .ok (.getfield 14, 3) := by decide +kernel
theorem d_K_existingKey_26 : decode b_K_existingKey 26 = .ok (.iload_n 1, 1) := by decide +kernel
theorem d_K_existingKey_27 : decode b_K_existingKey 27 = .ok (.aaload, 1) := by decide +kernel
theorem d_K_existingKey_28 : decode b_K_existingKey 28 = .ok (.areturn, 1) := by decide +kernel
theorem d_K_open_0 : decode b_K_open 0 = .ok (.aload_n 0, 1) := by decide +kernel
theorem d_K_open_1 : decode b_K_open 1 = .ok (.iload_n 1, 1) := by decide +kernel
theorem d_K_open_2 : decode b_K_open 2 = .ok (.invokevirtual 106, 3) := by decide +kernel
theorem d_K_open_5 : decode b_K_open 5 = .ok (.astore_n 3, 1) := by decide +kernel
theorem d_K_open_6 : decode b_K_open 6 = .ok (.iload_n 2, 1) := by decide +kernel
theorem d_K_open_7 : decode b_K_open 7 = .ok (.ifCond .eq 18, 3) := by decide +kernel
theorem d_K_open_10 : decode b_K_open 10 = .ok (.iload_n 2, 1) := by decide +kernel
theorem d_K_open_11 : decode b_K_open 11 = .ok (.iconst 1, 1) := by decide +kernel
theorem d_K_open_12 : decode b_K_open 12 = .ok (.if_icmp .eq 13, 3) := by decide +kernel
theorem d_K_open_15 : decode b_K_open 15 = .ok (.new 80, 3) := by decide +kernel
theorem d_K_open_18 : decode b_K_open 18 = .ok (.dup, 1) := by decide +kernel
theorem d_K_open_19 : decode b_K_open 19 = .ok (.ldc 110, 2) := by decide +kernel
theorem d_K_open_21 : decode b_K_open 21 = .ok (.invokespecial 84, 3) := by decide +kernel
theorem d_K_open_24 : decode b_K_open 24 = .ok (.athrow, 1) := by decide +kernel
theorem d_K_open_25 : decode b_K_open 25 = .ok (.iload_n 2, 1) := by decide +kernel
theorem d_K_open_26 : decode b_K_open 26 = .ok (.ifCond .ne 21, 3) := by decide +kernel
theorem d_K_open_29 : decode b_K_open 29 = .ok (.aload_n 0, 1) := by decide +kernel
theorem d_K_open_30 : decode b_K_open 30 = .ok (.getfield 31, 3) := by decide +kernel
theorem d_K_open_33 : decode b_K_open 33 = .ok (.aload_n 0, 1) := by decide +kernel
theorem d_K_open_34 : decode b_K_open 34 = .ok (.getfield 18, 3) := by decide +kernel
theorem d_K_open_37 : decode b_K_open 37 = .ok (.aload_n 3, 1) := by decide +kernel
theorem d_K_open_38 : decode b_K_open 38 = .ok (.getfield 97, 3) := by decide +kernel
theorem d_K_open_41 : decode b_K_open 41 = .ok (.invokevirtual 112, 3) := by decide +kernel
theorem d_K_open_44 : decode b_K_open 44 = .ok (.goto 26, 3) := by decide +kernel
theorem d_K_open_47 : decode b_K_open 47 = .ok (.aload_n 0, 1) := by decide +kernel
theorem d_K_open_48 : decode b_K_open 48 = .ok (.getfield 47, 3) := by decide +kernel
theorem d_K_open_51 : decode b_K_open 51 = .ok (.aload_n 3, 1) := by decide +kernel
theorem d_K_open_52 : decode b_K_open 52 = .ok (.invokevirtual 116, 3) := by decide +kernel
theorem d_K_open_55 : decode b_K_open 55 = .ok (.aload_n 3, 1) := by decide +kernel
theorem d_K_open_56 : decode b_K_open 56 = .ok (.getfield 120, 3) := by decide +kernel
theorem d_K_open_59 : decode b_K_open 59 = .ok (.iconst 0, 1) := by decide +kernel
theorem d_K_open_60 : decode b_K_open 60 = .ok (.aload_n 0, 1) := by decide +kernel
theorem d_K_open_61 : decode b_K_open 61 = .ok (.getfield 18, 3) := by decide +kernel
theorem d_K_open_64 : decode b_K_open 64 = .ok (.iconst 0, 1) := by decide +kernel
theorem d_K_open_65 : decode b_K_open 65 = .ok (.bipush 32, 2) := by decide +kernel
theorem d_K_open_67 : decode b_K_open 67 = .ok (.invokestatic 100, 3) := by decide +kernel
theorem d_K_open_70 : decode b_K_open 70 = .ok (.aload_n 0, 1) := by decide +kernel
theorem d_K_open_71 : decode b_K_open 71 = .ok (.bipush 32, 2) := by decide +kernel
theorem d_K_open_73 : decode b_K_open 73 = .ok (.putfield 123, 3) := by decide +kernel
theorem d_K_open_76 : decode b_K_open 76 = .ok (.return_, 1) := by decide +kernel
theorem d_K_agree_0 : decode b_K_agree 0 = .ok (.aload_n 0, 1) := by decide +kernel
theorem d_K_agree_1 : decode b_K_agree 1 = .ok (.iload_n 1, 1) := by decide +kernel
theorem d_K_agree_2 : decode b_K_agree 2 = .ok (.invokevirtual 106, 3) := by decide +kernel
theorem d_K_agree_5 : decode b_K_agree 5 = .ok (.astore_n 2, 1) := by decide +kernel
theorem d_K_agree_6 : decode b_K_agree 6 = .ok (.aload_n 0, 1) := by decide +kernel
theorem d_K_agree_7 : decode b_K_agree 7 = .ok (.bipush 32, 2) := by decide +kernel
theorem d_K_agree_9 : decode b_K_agree 9 = .ok (.invokevirtual 85, 3) := by decide +kernel
theorem d_K_agree_12 : decode b_K_agree 12 = .ok (.aload_n 0, 1) := by decide +kernel
theorem d_K_agree_13 : decode b_K_agree 13 = .ok (.getfield 31, 3) := by decide +kernel
theorem d_K_agree_16 : decode b_K_agree 16 = .ok (.aload_n 0, 1) := by decide +kernel
theorem d_K_agree_17 : decode b_K_agree 17 = .ok (.getfield 18, 3) := by decide +kernel
theorem d_K_agree_20 : decode b_K_agree 20 = .ok (.aload_n 2, 1) := by decide +kernel
theorem d_K_agree_21 : decode b_K_agree 21 = .ok (.getfield 97, 3) := by decide +kernel
theorem d_K_agree_24 : decode b_K_agree 24 = .ok (.aload_n 0, 1) := by decide +kernel
theorem d_K_agree_25 : decode b_K_agree 25 = .ok (.getfield 54, 3) := by decide +kernel
theorem d_K_agree_28 : decode b_K_agree 28 = .ok (.getfield 94, 3) := by decide +kernel
theorem d_K_agree_31 : decode b_K_agree 31 = .ok (.invokevirtual 126, 3) := by decide +kernel
theorem d_K_agree_34 : decode b_K_agree 34 = .ok (.aload_n 0, 1) := by decide +kernel
theorem d_K_agree_35 : decode b_K_agree 35 = .ok (.bipush 32, 2) := by decide +kernel
theorem d_K_agree_37 : decode b_K_agree 37 = .ok (.putfield 123, 3) := by decide +kernel
theorem d_K_agree_40 : decode b_K_agree 40 = .ok (.aload_n 0, 1) := by decide +kernel
theorem d_K_agree_41 : decode b_K_agree 41 = .ok (.getfield 54, 3) := by decide +kernel
theorem d_K_agree_44 : decode b_K_agree 44 = .ok (.iconst 0, 1) := by decide +kernel
theorem d_K_agree_45 : decode b_K_agree 45 = .ok (.putfield 76, 3) := by decide +kernel
theorem d_K_agree_48 : decode b_K_agree 48 = .ok (.aload_n 0, 1) := by decide +kernel
theorem d_K_agree_49 : decode b_K_agree 49 = .ok (.getfield 18, 3) := by decide +kernel
theorem d_K_agree_52 : decode b_K_agree 52 = .ok (.invokestatic 130, 3) := by decide +kernel
theorem d_K_agree_55 : decode b_K_agree 55 = .ok (.ifCond .ne 7, 3) := by decide +kernel
theorem d_K_agree_58 : decode b_K_agree 58 = .ok (.iconst 1, 1) := by decide +kernel
theorem d_K_agree_59 : decode b_K_agree 59 = .ok (.goto 4, 3) := by decide +kernel
theorem d_K_agree_62 : decode b_K_agree 62 = .ok (.iconst 0, 1) := by decide +kernel
theorem d_K_agree_63 : decode b_K_agree 63 = .ok (.istore_n 3, 1) := by decide +kernel
theorem d_K_agree_64 : decode b_K_agree 64 = .ok (.iload_n 3, 1) := by decide +kernel
theorem d_K_agree_65 : decode b_K_agree 65 = .ok (.ifCond .ne 13, 3) := by decide +kernel
theorem d_K_agree_68 : decode b_K_agree 68 = .ok (.aload_n 0, 1) := by decide +kernel
theorem d_K_agree_69 : decode b_K_agree 69 = .ok (.dup, 1) := by decide +kernel
theorem d_K_agree_70 : decode b_K_agree 70 = .ok (.getfield 134, 3) := by decide +kernel
theorem d_K_agree_73 : decode b_K_agree 73 = .ok (.iconst 1, 1) := by decide +kernel
theorem d_K_agree_74 : decode b_K_agree 74 = .ok (.iadd, 1) := by decide +kernel
theorem d_K_agree_75 : decode b_K_agree 75 = .ok (.putfield 134, 3) := by decide +kernel
theorem d_K_agree_78 : decode b_K_agree 78 = .ok (.iload_n 3, 1) := by decide +kernel
theorem d_K_agree_79 : decode b_K_agree 79 = .ok (.ireturn, 1) := by decide +kernel
theorem d_K_sign_0 : decode b_K_sign 0 = .ok (.aload_n 0, 1) := by decide +kernel
theorem d_K_sign_1 : decode b_K_sign 1 = .ok (.iload_n 1, 1) := by decide +kernel
theorem d_K_sign_2 : decode b_K_sign 2 = .ok (.invokevirtual 106, 3) := by decide +kernel
theorem d_K_sign_5 : decode b_K_sign 5 = .ok (.astore_n 2, 1) := by decide +kernel
theorem d_K_sign_6 : decode b_K_sign 6 = .ok (.aload_n 0, 1) := by decide +kernel
theorem d_K_sign_7 : decode b_K_sign 7 = .ok (.getfield 47, 3) := by decide +kernel
theorem d_K_sign_10 : decode b_K_sign 10 = .ok (.aload_n 2, 1) := by decide +kernel
theorem d_K_sign_11 : decode b_K_sign 11 = .ok (.invokevirtual 116, 3) := by decide +kernel
theorem d_K_sign_14 : decode b_K_sign 14 = .ok (.aload_n 0, 1) := by decide +kernel
theorem d_K_sign_15 : decode b_K_sign 15 = .ok (.getfield 47, 3) := by decide +kernel
theorem d_K_sign_18 : decode b_K_sign 18 = .ok (.aload_n 0, 1) := by decide +kernel
theorem d_K_sign_19 : decode b_K_sign 19 = .ok (.getfield 18, 3) := by decide +kernel
theorem d_K_sign_22 : decode b_K_sign 22 = .ok (.aload_n 2, 1) := by decide +kernel
theorem d_K_sign_23 : decode b_K_sign 23 = .ok (.aload_n 0, 1) := by decide +kernel
theorem d_K_sign_24 : decode b_K_sign 24 = .ok (.getfield 58, 3) := by decide +kernel
theorem d_K_sign_27 : decode b_K_sign 27 = .ok (.invokevirtual 137, 3) := by decide +kernel
theorem d_K_sign_30 : decode b_K_sign 30 = .ok (.aload_n 0, 1) := by decide +kernel
theorem d_K_sign_31 : decode b_K_sign 31 = .ok (.bipush 64, 2) := by decide +kernel
theorem d_K_sign_33 : decode b_K_sign 33 = .ok (.putfield 123, 3) := by decide +kernel
theorem d_K_sign_36 : decode b_K_sign 36 = .ok (.aload_n 0, 1) := by decide +kernel
theorem d_K_sign_37 : decode b_K_sign 37 = .ok (.dup, 1) := by decide +kernel
theorem d_K_sign_38 : decode b_K_sign 38 = .ok (.getfield 141, 3) := by decide +kernel
theorem d_K_sign_41 : decode b_K_sign 41 = .ok (.iconst 1, 1) := by decide +kernel
theorem d_K_sign_42 : decode b_K_sign 42 = .ok (.iadd, 1) := by decide +kernel
theorem d_K_sign_43 : decode b_K_sign 43 = .ok (.putfield 141, 3) := by decide +kernel
theorem d_K_sign_46 : decode b_K_sign 46 = .ok (.return_, 1) := by decide +kernel
theorem d_K_verify_0 : decode b_K_verify 0 = .ok (.aload_n 0, 1) := by decide +kernel
theorem d_K_verify_1 : decode b_K_verify 1 = .ok (.bipush 96, 2) := by decide +kernel
theorem d_K_verify_3 : decode b_K_verify 3 = .ok (.invokevirtual 85, 3) := by decide +kernel
theorem d_K_verify_6 : decode b_K_verify 6 = .ok (.aload_n 0, 1) := by decide +kernel
theorem d_K_verify_7 : decode b_K_verify 7 = .ok (.getfield 47, 3) := by decide +kernel
theorem d_K_verify_10 : decode b_K_verify 10 = .ok (.aload_n 0, 1) := by decide +kernel
theorem d_K_verify_11 : decode b_K_verify 11 = .ok (.getfield 54, 3) := by decide +kernel
theorem d_K_verify_14 : decode b_K_verify 14 = .ok (.getfield 94, 3) := by decide +kernel
theorem d_K_verify_17 : decode b_K_verify 17 = .ok (.aload_n 0, 1) := by decide +kernel
theorem d_K_verify_18 : decode b_K_verify 18 = .ok (.getfield 58, 3) := by decide +kernel
theorem d_K_verify_21 : decode b_K_verify 21 = .ok (.invokevirtual 144, 3) := by decide +kernel
theorem d_K_verify_24 : decode b_K_verify 24 = .ok (.istore_n 1, 1) := by decide +kernel
theorem d_K_verify_25 : decode b_K_verify 25 = .ok (.aload_n 0, 1) := by decide +kernel
theorem d_K_verify_26 : decode b_K_verify 26 = .ok (.getfield 54, 3) := by decide +kernel
theorem d_K_verify_29 : decode b_K_verify 29 = .ok (.iconst 0, 1) := by decide +kernel
theorem d_K_verify_30 : decode b_K_verify 30 = .ok (.putfield 76, 3) := by decide +kernel
theorem d_K_verify_33 : decode b_K_verify 33 = .ok (.aload_n 0, 1) := by decide +kernel
theorem d_K_verify_34 : decode b_K_verify 34 = .ok (.getfield 22, 3) := by decide +kernel
theorem d_K_verify_37 : decode b_K_verify 37 = .ok (.iload_n 1, 1) := by decide +kernel
theorem d_K_verify_38 : decode b_K_verify 38 = .ok (.dup2, 1) := by decide +kernel
theorem d_K_verify_39 : decode b_K_verify 39 = .ok (.iaload, 1) := by decide +kernel
theorem d_K_verify_40 : decode b_K_verify 40 = .ok (.iconst 1, 1) := by decide +kernel
theorem d_K_verify_41 : decode b_K_verify 41 = .ok (.iadd, 1) := by decide +kernel
theorem d_K_verify_42 : decode b_K_verify 42 = .ok (.iastore, 1) := by decide +kernel
theorem d_K_verify_43 : decode b_K_verify 43 = .ok (.iload_n 1, 1) := by decide +kernel
theorem d_K_verify_44 : decode b_K_verify 44 = .ok (.ireturn, 1) := by decide +kernel
theorem d_K_point_0 : decode b_K_point 0 = .ok (.aload_n 0, 1) := by decide +kernel
theorem d_K_point_1 : decode b_K_point 1 = .ok (.bipush 32, 2) := by decide +kernel
theorem d_K_point_3 : decode b_K_point 3 = .ok (.invokevirtual 85, 3) := by decide +kernel
theorem d_K_point_6 : decode b_K_point 6 = .ok (.aload_n 0, 1) := by decide +kernel
theorem d_K_point_7 : decode b_K_point 7 = .ok (.getfield 38, 3) := by decide +kernel
theorem d_K_point_10 : decode b_K_point 10 = .ok (.aload_n 0, 1) := by decide +kernel
theorem d_K_point_11 : decode b_K_point 11 = .ok (.getfield 54, 3) := by decide +kernel
theorem d_K_point_14 : decode b_K_point 14 = .ok (.getfield 94, 3) := by decide +kernel
theorem d_K_point_17 : decode b_K_point 17 = .ok (.invokevirtual 148, 3) := by decide +kernel
theorem d_K_point_20 : decode b_K_point 20 = .ok (.istore_n 1, 1) := by decide +kernel
theorem d_K_point_21 : decode b_K_point 21 = .ok (.aload_n 0, 1) := by decide +kernel
theorem d_K_point_22 : decode b_K_point 22 = .ok (.getfield 54, 3) := by decide +kernel
theorem d_K_point_25 : decode b_K_point 25 = .ok (.iconst 0, 1) := by decide +kernel
theorem d_K_point_26 : decode b_K_point 26 = .ok (.putfield 76, 3) := by decide +kernel
theorem d_K_point_29 : decode b_K_point 29 = .ok (.iload_n 1, 1) := by decide +kernel
theorem d_K_point_30 : decode b_K_point 30 = .ok (.ifCond .eq 20, 3) := by decide +kernel
theorem d_K_point_33 : decode b_K_point 33 = .ok (.aload_n 0, 1) := by decide +kernel
theorem d_K_point_34 : decode b_K_point 34 = .ok (.getfield 38, 3) := by decide +kernel
theorem d_K_point_37 : decode b_K_point 37 = .ok (.aload_n 0, 1) := by decide +kernel
theorem d_K_point_38 : decode b_K_point 38 = .ok (.getfield 18, 3) := by decide +kernel
theorem d_K_point_41 : decode b_K_point 41 = .ok (.invokevirtual 151, 3) := by decide +kernel
theorem d_K_point_44 : decode b_K_point 44 = .ok (.aload_n 0, 1) := by decide +kernel
theorem d_K_point_45 : decode b_K_point 45 = .ok (.bipush 32, 2) := by decide +kernel
theorem d_K_point_47 : decode b_K_point 47 = .ok (.putfield 123, 3) := by decide +kernel
theorem d_K_point_50 : decode b_K_point 50 = .ok (.iload_n 1, 1) := by decide +kernel
theorem d_K_point_51 : decode b_K_point 51 = .ok (.ireturn, 1) := by decide +kernel
theorem d_K_back_0 : decode b_K_back 0 = .ok (.iload_n 1, 1) := by decide +kernel
theorem d_K_back_1 : decode b_K_back 1 = .ok (.iconst (-1), 1) := by decide +kernel
theorem d_K_back_2 : decode b_K_back 2 = .ok (.if_icmp .lt 11, 3) := by decide +kernel
theorem d_K_back_5 : decode b_K_back 5 = .ok (.iload_n 1, 1) := by decide +kernel
theorem d_K_back_6 : decode b_K_back 6 = .ok (.aload_n 0, 1) := by decide +kernel
theorem d_K_back_7 : decode b_K_back 7 = .ok (.getfield 123, 3) := by decide +kernel
theorem d_K_back_10 : decode b_K_back 10 = .ok (.if_icmp .lt 13, 3) := by decide +kernel
theorem d_K_back_13 : decode b_K_back 13 = .ok (.new 155, 3) := by decide +kernel
theorem d_K_back_16 : decode b_K_back 16 = .ok (.dup, 1) := by decide +kernel
theorem d_K_back_17 : decode b_K_back 17 = .ok (.ldc 157, 2) := by decide +kernel
theorem d_K_back_19 : decode b_K_back 19 = .ok (.invokespecial 159, 3) := by decide +kernel
theorem d_K_back_22 : decode b_K_back 22 = .ok (.athrow, 1) := by decide +kernel
theorem d_K_back_23 : decode b_K_back 23 = .ok (.aload_n 0, 1) := by decide +kernel
theorem d_K_back_24 : decode b_K_back 24 = .ok (.getfield 54, 3) := by decide +kernel
theorem d_K_back_27 : decode b_K_back 27 = .ok (.aload_n 0, 1) := by decide +kernel
theorem d_K_back_28 : decode b_K_back 28 = .ok (.getfield 123, 3) := by decide +kernel
theorem d_K_back_31 : decode b_K_back 31 = .ok (.invokevirtual 61, 3) := by decide +kernel
theorem d_K_back_34 : decode b_K_back 34 = .ok (.ifCond .ne 13, 3) := by decide +kernel
theorem d_K_back_37 : decode b_K_back 37 = .ok (.new 65, 3) := by decide +kernel
theorem d_K_back_40 : decode b_K_back 40 = .ok (.dup, 1) := by decide +kernel
theorem d_K_back_41 : decode b_K_back 41 = .ok (.ldc 160, 2) := by decide +kernel
theorem d_K_back_43 : decode b_K_back 43 = .ok (.invokespecial 69, 3) := by decide +kernel
theorem d_K_back_46 : decode b_K_back 46 = .ok (.athrow, 1) := by decide +kernel
theorem d_K_back_47 : decode b_K_back 47 = .ok (.aload_n 0, 1) := by decide +kernel
theorem d_K_back_48 : decode b_K_back 48 = .ok (.getfield 54, 3) := by decide +kernel
theorem d_K_back_51 : decode b_K_back 51 = .ok (.getfield 76, 3) := by decide +kernel
theorem d_K_back_54 : decode b_K_back 54 = .ok (.istore_n 3, 1) := by decide +kernel
theorem d_K_back_55 : decode b_K_back 55 = .ok (.aload_n 0, 1) := by decide +kernel
theorem d_K_back_56 : decode b_K_back 56 = .ok (.getfield 54, 3) := by decide +kernel
theorem d_K_back_59 : decode b_K_back 59 = .ok (.aload_n 0, 1) := by decide +kernel
theorem d_K_back_60 : decode b_K_back 60 = .ok (.getfield 18, 3) := by decide +kernel
theorem d_K_back_63 : decode b_K_back 63 = .ok (.aload_n 0, 1) := by decide +kernel
theorem d_K_back_64 : decode b_K_back 64 = .ok (.getfield 123, 3) := by decide +kernel
theorem d_K_back_67 : decode b_K_back 67 = .ok (.invokevirtual 162, 3) := by decide +kernel
theorem d_K_back_70 : decode b_K_back 70 = .ok (.iload_n 1, 1) := by decide +kernel
theorem d_K_back_71 : decode b_K_back 71 = .ok (.ifCond .lt 20, 3) := by decide +kernel
theorem d_K_back_74 : decode b_K_back 74 = .ok (.aload_n 0, 1) := by decide +kernel
theorem d_K_back_75 : decode b_K_back 75 = .ok (.getfield 54, 3) := by decide +kernel
theorem d_K_back_78 : decode b_K_back 78 = .ok (.getfield 94, 3) := by decide +kernel
theorem d_K_back_81 : decode b_K_back 81 = .ok (.iload_n 3, 1) := by decide +kernel
theorem d_K_back_82 : decode b_K_back 82 = .ok (.iload_n 1, 1) := by decide +kernel
theorem d_K_back_83 : decode b_K_back 83 = .ok (.iadd, 1) := by decide +kernel
theorem d_K_back_84 : decode b_K_back 84 = .ok (.dup2, 1) := by decide +kernel
theorem d_K_back_85 : decode b_K_back 85 = .ok (.baload, 1) := by decide +kernel
theorem d_K_back_86 : decode b_K_back 86 = .ok (.iload_n 2, 1) := by decide +kernel
theorem d_K_back_87 : decode b_K_back 87 = .ok (.i2b, 1) := by decide +kernel
theorem d_K_back_88 : decode b_K_back 88 = .ok (.ixor, 1) := by decide +kernel
theorem d_K_back_89 : decode b_K_back 89 = .ok (.i2b, 1) := by decide +kernel
theorem d_K_back_90 : decode b_K_back 90 = .ok (.bastore, 1) := by decide +kernel
theorem d_K_back_91 : decode b_K_back 91 = .ok (.aload_n 0, 1) := by decide +kernel
theorem d_K_back_92 : decode b_K_back 92 = .ok (.getfield 54, 3) := by decide +kernel
theorem d_K_back_95 : decode b_K_back 95 = .ok (.getfield 76, 3) := by decide +kernel
theorem d_K_back_98 : decode b_K_back 98 = .ok (.ireturn, 1) := by decide +kernel
theorem d_K_key_0 : decode b_K_key 0 = .ok (.aload_n 0, 1) := by decide +kernel
theorem d_K_key_1 : decode b_K_key 1 = .ok (.bipush 32, 2) := by decide +kernel
theorem d_K_key_3 : decode b_K_key 3 = .ok (.invokevirtual 85, 3) := by decide +kernel
theorem d_K_key_6 : decode b_K_key 6 = .ok (.aload_n 0, 1) := by decide +kernel
theorem d_K_key_7 : decode b_K_key 7 = .ok (.getfield 88, 3) := by decide +kernel
theorem d_K_key_10 : decode b_K_key 10 = .ok (.bipush 100, 2) := by decide +kernel
theorem d_K_key_12 : decode b_K_key 12 = .ok (.if_icmp .lt 13, 3) := by decide +kernel
theorem d_K_key_15 : decode b_K_key 15 = .ok (.new 65, 3) := by decide +kernel
theorem d_K_key_18 : decode b_K_key 18 = .ok (.dup, 1) := by decide +kernel
theorem d_K_key_19 : decode b_K_key 19 = .ok (.ldc 91, 2) := by decide +kernel
theorem d_K_key_21 : decode b_K_key 21 = .ok (.invokespecial 69, 3) := by decide +kernel
theorem d_K_key_24 : decode b_K_key 24 = .ok (.athrow, 1) := by decide +kernel
theorem d_K_key_25 : decode b_K_key 25 = .ok (.new 12, 3) := by decide +kernel
theorem d_K_key_28 : decode b_K_key 28 = .ok (.dup, 1) := by decide +kernel
theorem d_K_key_29 : decode b_K_key 29 = .ok (.invokespecial 93, 3) := by decide +kernel
theorem d_K_key_32 : decode b_K_key 32 = .ok (.astore_n 1, 1) := by decide +kernel
theorem d_K_key_33 : decode b_K_key 33 = .ok (.aload_n 0, 1) := by decide +kernel
theorem d_K_key_34 : decode b_K_key 34 = .ok (.getfield 54, 3) := by decide +kernel
theorem d_K_key_37 : decode b_K_key 37 = .ok (.getfield 94, 3) := by decide +kernel
theorem d_K_key_40 : decode b_K_key 40 = .ok (.iconst 0, 1) := by decide +kernel
theorem d_K_key_41 : decode b_K_key 41 = .ok (.aload_n 1, 1) := by decide +kernel
theorem d_K_key_42 : decode b_K_key 42 = .ok (.getfield 97, 3) := by decide +kernel
theorem d_K_key_45 : decode b_K_key 45 = .ok (.iconst 0, 1) := by decide +kernel
theorem d_K_key_46 : decode b_K_key 46 = .ok (.bipush 32, 2) := by decide +kernel
theorem d_K_key_48 : decode b_K_key 48 = .ok (.invokestatic 100, 3) := by decide +kernel
theorem d_K_key_51 : decode b_K_key 51 = .ok (.aload_n 0, 1) := by decide +kernel
theorem d_K_key_52 : decode b_K_key 52 = .ok (.getfield 14, 3) := by decide +kernel
theorem d_K_key_55 : decode b_K_key 55 = .ok (.aload_n 0, 1) := by decide +kernel
theorem d_K_key_56 : decode b_K_key 56 = .ok (.getfield 88, 3) := by decide +kernel
theorem d_K_key_59 : decode b_K_key 59 = .ok (.aload_n 1, 1) := by decide +kernel
theorem d_K_key_60 : decode b_K_key 60 = .ok (.aastore, 1) := by decide +kernel
theorem d_K_key_61 : decode b_K_key 61 = .ok (.aload_n 0, 1) := by decide +kernel
theorem d_K_key_62 : decode b_K_key 62 = .ok (.dup, 1) := by decide +kernel
theorem d_K_key_63 : decode b_K_key 63 = .ok (.getfield 88, 3) := by decide +kernel
theorem d_K_key_66 : decode b_K_key 66 = .ok (.iconst 1, 1) := by decide +kernel
theorem d_K_key_67 : decode b_K_key 67 = .ok (.iadd, 1) := by decide +kernel
theorem d_K_key_68 : decode b_K_key 68 = .ok (.putfield 88, 3) := by decide +kernel
theorem d_K_key_71 : decode b_K_key 71 = .ok (.aload_n 0, 1) := by decide +kernel
theorem d_K_key_72 : decode b_K_key 72 = .ok (.getfield 54, 3) := by decide +kernel
theorem d_K_key_75 : decode b_K_key 75 = .ok (.iconst 0, 1) := by decide +kernel
theorem d_K_key_76 : decode b_K_key 76 = .ok (.putfield 76, 3) := by decide +kernel
theorem d_K_key_79 : decode b_K_key 79 = .ok (.aload_n 0, 1) := by decide +kernel
theorem d_K_key_80 : decode b_K_key 80 = .ok (.getfield 88, 3) := by decide +kernel
theorem d_K_key_83 : decode b_K_key 83 = .ok (.iconst 1, 1) := by decide +kernel
theorem d_K_key_84 : decode b_K_key 84 = .ok (.isub, 1) := by decide +kernel
theorem d_K_key_85 : decode b_K_key 85 = .ok (.ireturn, 1) := by decide +kernel
theorem d_Ke_init_0 : decode b_Ke_init 0 = .ok (.aload_n 0, 1) := by decide +kernel
theorem d_Ke_init_1 : decode b_Ke_init 1 = .ok (.invokespecial 3, 3) := by decide +kernel
theorem d_Ke_init_4 : decode b_Ke_init 4 = .ok (.aload_n 0, 1) := by decide +kernel
theorem d_Ke_init_5 : decode b_Ke_init 5 = .ok (.bipush 32, 2) := by decide +kernel
theorem d_Ke_init_7 : decode b_Ke_init 7 = .ok (.newarray .byte, 2) := by decide +kernel
theorem d_Ke_init_9 : decode b_Ke_init 9 = .ok (.putfield 9, 3) := by decide +kernel
theorem d_Ke_init_12 : decode b_Ke_init 12 = .ok (.aload_n 0, 1) := by decide +kernel
theorem d_Ke_init_13 : decode b_Ke_init 13 = .ok (.bipush 32, 2) := by decide +kernel
theorem d_Ke_init_15 : decode b_Ke_init 15 = .ok (.newarray .byte, 2) := by decide +kernel
theorem d_Ke_init_17 : decode b_Ke_init 17 = .ok (.putfield 15, 3) := by decide +kernel
theorem d_Ke_init_20 : decode b_Ke_init 20 = .ok (.aload_n 0, 1) := by decide +kernel
theorem d_Ke_init_21 : decode b_Ke_init 21 = .ok (.bipush 32, 2) := by decide +kernel
theorem d_Ke_init_23 : decode b_Ke_init 23 = .ok (.newarray .byte, 2) := by decide +kernel
theorem d_Ke_init_25 : decode b_Ke_init 25 = .ok (.putfield 18, 3) := by decide +kernel
theorem d_Ke_init_28 : decode b_Ke_init 28 = .ok (.aload_n 0, 1) := by decide +kernel
theorem d_Ke_init_29 : decode b_Ke_init 29 = .ok (.bipush 32, 2) := by decide +kernel
theorem d_Ke_init_31 : decode b_Ke_init 31 = .ok (.newarray .byte, 2) := by decide +kernel
theorem d_Ke_init_33 : decode b_Ke_init 33 = .ok (.putfield 21, 3) := by decide +kernel
theorem d_Ke_init_36 : decode b_Ke_init 36 = .ok (.return_, 1) := by decide +kernel
