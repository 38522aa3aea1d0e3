theorem d_K_requireTape_0 : decode b_K_requireTape 0 = .ok (.aload_n 0, 1) := by decide +kernel
theorem d_K_requireTape_1 : decode b_K_requireTape 1 = .ok (.getfield 54, 3) := by decide +kernel
theorem d_K_requireTape_4 : decode b_K_requireTape 4 = .ok (.getfield 76, 3) := by decide +kernel
theorem d_K_requireTape_7 : decode b_K_requireTape 7 = .ok (.iload_n 1, 1) := by decide +kernel
theorem d_K_requireTape_8 : decode b_K_requireTape 8 = .ok (.if_icmp .eq 13, 3) := by decide +kernel
theorem d_K_requireTape_11 : decode b_K_requireTape 11 = .ok (.new 80, 3) := by decide +kernel
theorem d_K_requireTape_14 : decode b_K_requireTape 14 = .ok (.dup, 1) := by decide +kernel
theorem d_K_requireTape_15 : decode b_K_requireTape 15 = .ok (.ldc 171, 2) := by decide +kernel
theorem d_K_requireTape_17 : decode b_K_requireTape 17 = .ok (.invokespecial 84, 3) := by decide +kernel
theorem d_K_requireTape_20 : decode b_K_requireTape 20 = .ok (.athrow, 1) := by decide +kernel
theorem d_K_requireTape_21 : decode b_K_requireTape 21 = .ok (.return_, 1) := by decide +kernel
theorem d_K_existingKey_0 : decode b_K_existingKey 0 = .ok (.iload_n 1, 1) := by decide +kernel
theorem d_K_existingKey_1 : decode b_K_existingKey 1 = .ok (.ifCond .lt 11, 3) := by decide +kernel
theorem d_K_existingKey_4 : decode b_K_existingKey 4 = .ok (.iload_n 1, 1) := by decide +kernel
theorem d_K_existingKey_5 : decode b_K_existingKey 5 = .ok (.aload_n 0, 1) := by decide +kernel
theorem d_K_existingKey_6 : decode b_K_existingKey 6 = .ok (.getfield 88, 3) := by decide +kernel
theorem d_K_existingKey_9 : decode b_K_existingKey 9 = .ok (.if_icmp .lt 13, 3) := by decide +kernel
theorem d_K_existingKey_12 : decode b_K_existingKey 12 = .ok (.new 166, 3) := by decide +kernel
theorem d_K_existingKey_15 : decode b_K_existingKey 15 = .ok (.dup, 1) := by decide +kernel
theorem d_K_existingKey_16 : decode b_K_existingKey 16 = .ok (.ldc 168, 2) := by decide +kernel
theorem d_K_existingKey_18 : decode b_K_existingKey 18 = .ok (.invokespecial 170, 3) := by decide +kernel
theorem d_K_existingKey_21 : decode b_K_existingKey 21 = .ok (.athrow, 1) := by decide +kernel
theorem d_K_existingKey_22 : decode b_K_existingKey 22 = .ok (.aload_n 0, 1) := by decide +kernel
theorem d_K_existingKey_23 : decode b_K_existingKey 23 = .ok (.getfield 14, 3) := by decide +kernel
theorem d_K_existingKey_26 : decode b_K_existingKey 26 = .ok (.iload_n 1, 1) := by decide +kernel
theorem d_K_existingKey_27 : decode b_K_existingKey 27 = .ok (.aaload, 1) := by decide +kernel
theorem d_K_existingKey_28 : decode b_K_existingKey 28 = .ok (.areturn, 1) := by decide +kernel
theorem d_K_result_0 : decode b_K_result 0 = .ok (.iload_n 1, 1) := by decide +kernel
theorem d_K_result_1 : decode b_K_result 1 = .ok (.ifCond .lt 11, 3) := by decide +kernel
theorem d_K_result_4 : decode b_K_result 4 = .ok (.iload_n 1, 1) := by decide +kernel
theorem d_K_result_5 : decode b_K_result 5 = .ok (.aload_n 0, 1) := by decide +kernel
theorem d_K_result_6 : decode b_K_result 6 = .ok (.getfield 123, 3) := by decide +kernel
theorem d_K_result_9 : decode b_K_result 9 = .ok (.if_icmp .lt 13, 3) := by decide +kernel
theorem d_K_result_12 : decode b_K_result 12 = .ok (.new 155, 3) := by decide +kernel
theorem d_K_result_15 : decode b_K_result 15 = .ok (.dup, 1) := by decide +kernel
theorem d_K_result_16 : decode b_K_result 16 = .ok (.ldc 157, 2) := by decide +kernel
theorem d_K_result_18 : decode b_K_result 18 = .ok (.invokespecial 159, 3) := by decide +kernel
theorem d_K_result_21 : decode b_K_result 21 = .ok (.athrow, 1) := by decide +kernel
theorem d_K_result_22 : decode b_K_result 22 = .ok (.aload_n 0, 1) := by decide +kernel
theorem d_K_result_23 : decode b_K_result 23 = .ok (.getfield 18, 3) := by decide +kernel
theorem d_K_result_26 : decode b_K_result 26 = .ok (.iload_n 1, 1) := by decide +kernel
theorem d_K_result_27 : decode b_K_result 27 = .ok (.baload, 1) := by decide +kernel
theorem d_K_result_28 : decode b_K_result 28 = .ok (.sipush 255, 3) := by decide +kernel
theorem d_K_result_31 : decode b_K_result 31 = .ok (.iand, 1) := by decide +kernel
theorem d_K_result_32 : decode b_K_result 32 = .ok (.ireturn, 1) := by decide +kernel
theorem d_K_key_0 : decode b_K_key 0 = .ok (.aload_n 0, 1) := by decide +kernel
theorem d_K_key_1 : decode b_K_key 1 = .ok (.bipush 32, 2) := by decide +kernel
theorem d_K_key_3 : decode b_K_key 3 = .ok (.invokevirtual 85, 3) := by decide +kernel
theorem d_K_key_6 : decode b_K_key 6 = .ok (.aload_n 0, 1) := by decide +kernel
theorem d_K_verify_0 : decode b_K_verify 0 = .ok (.aload_n 0, 1) := by decide +kernel
theorem d_K_verify_1 : decode b_K_verify 1 = .ok (.bipush 96, 2) := by decide +kernel
theorem d_K_verify_3 : decode b_K_verify 3 = .ok (.invokevirtual 85, 3) := by decide +kernel
theorem d_K_verify_6 : decode b_K_verify 6 = .ok (.aload_n 0, 1) := by decide +kernel
theorem d_K_point_0 : decode b_K_point 0 = .ok (.aload_n 0, 1) := by decide +kernel
theorem d_K_point_1 : decode b_K_point 1 = .ok (.bipush 32, 2) := by decide +kernel
theorem d_K_point_3 : decode b_K_point 3 = .ok (.invokevirtual 85, 3) := by decide +kernel
theorem d_K_point_6 : decode b_K_point 6 = .ok (.aload_n 0, 1) := by decide +kernel
theorem d_K_open_0 : decode b_K_open 0 = .ok (.aload_n 0, 1) := by decide +kernel
theorem d_K_open_1 : decode b_K_open 1 = .ok (.iload_n 1, 1) := by decide +kernel
theorem d_K_open_2 : decode b_K_open 2 = .ok (.invokevirtual 106, 3) := by decide +kernel
theorem d_K_open_5 : decode b_K_open 5 = .ok (.astore_n 3, 1) := by decide +kernel
theorem d_K_agree_0 : decode b_K_agree 0 = .ok (.aload_n 0, 1) := by decide +kernel
theorem d_K_agree_1 : decode b_K_agree 1 = .ok (.iload_n 1, 1) := by decide +kernel
theorem d_K_agree_2 : decode b_K_agree 2 = .ok (.invokevirtual 106, 3) := by decide +kernel
theorem d_K_agree_5 : decode b_K_agree 5 = .ok (.astore_n 2, 1) := by decide +kernel
theorem d_K_sign_0 : decode b_K_sign 0 = .ok (.aload_n 0, 1) := by decide +kernel
theorem d_K_sign_1 : decode b_K_sign 1 = .ok (.iload_n 1, 1) := by decide +kernel
theorem d_K_sign_2 : decode b_K_sign 2 = .ok (.invokevirtual 106, 3) := by decide +kernel
theorem d_K_sign_5 : decode b_K_sign 5 = .ok (.astore_n 2, 1) := by decide +kernel
