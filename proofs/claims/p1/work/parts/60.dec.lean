theorem d_M_fail_0 : decode b_M_fail 0 = .ok (.aload_n 0, 1) := by decide +kernel
theorem d_M_fail_1 : decode b_M_fail 1 = .ok (.iload_n 1, 1) := by decide +kernel
theorem d_M_fail_2 : decode b_M_fail 2 = .ok (.putfield 211, 3) := by decide +kernel
theorem d_M_fail_5 : decode b_M_fail 5 = .ok (.iconst 0, 1) := by decide +kernel
theorem d_M_fail_6 : decode b_M_fail 6 = .ok (.ireturn, 1) := by decide +kernel
theorem d_M_none_0 : decode b_M_none 0 = .ok (.iload_n 1, 1) := by decide +kernel
theorem d_M_none_1 : decode b_M_none 1 = .ok (.ifCond .lt 11, 3) := by decide +kernel
theorem d_M_none_4 : decode b_M_none 4 = .ok (.iload_n 1, 1) := by decide +kernel
theorem d_M_none_5 : decode b_M_none 5 = .ok (.aload_n 0, 1) := by decide +kernel
theorem d_M_none_6 : decode b_M_none 6 = .ok (.getfield 322, 3) := by decide +kernel
theorem d_M_none_9 : decode b_M_none 9 = .ok (.if_icmp .lt 7, 3) := by decide +kernel
theorem d_M_none_12 : decode b_M_none 12 = .ok (.iconst 1, 1) := by decide +kernel
theorem d_M_none_13 : decode b_M_none 13 = .ok (.goto 4, 3) := by decide +kernel
theorem d_M_none_16 : decode b_M_none 16 = .ok (.iconst 0, 1) := by decide +kernel
theorem d_M_none_17 : decode b_M_none 17 = .ok (.ireturn, 1) := by decide +kernel
theorem d_M_result_0 : decode b_M_result 0 = .ok (.aload_n 0, 1) := by decide +kernel
theorem d_M_result_1 : decode b_M_result 1 = .ok (.iconst 0, 1) := by decide +kernel
theorem d_M_result_2 : decode b_M_result 2 = .ok (.putfield 211, 3) := by decide +kernel
theorem d_M_result_5 : decode b_M_result 5 = .ok (.iload_n 1, 1) := by decide +kernel
theorem d_M_result_6 : decode b_M_result 6 = .ok (.ifCond .lt 11, 3) := by decide +kernel
theorem d_M_result_9 : decode b_M_result 9 = .ok (.iload_n 1, 1) := by decide +kernel
theorem d_M_result_10 : decode b_M_result 10 = .ok (.aload_n 0, 1) := by decide +kernel
theorem d_M_result_11 : decode b_M_result 11 = .ok (.getfield 325, 3) := by decide +kernel
theorem d_M_result_14 : decode b_M_result 14 = .ok (.if_icmp .lt 9, 3) := by decide +kernel
theorem d_M_result_17 : decode b_M_result 17 = .ok (.aload_n 0, 1) := by decide +kernel
theorem d_M_result_18 : decode b_M_result 18 = .ok (.iconst 1, 1) := by decide +kernel
theorem d_M_result_19 : decode b_M_result 19 = .ok (.invokevirtual 319, 3) := by decide +kernel
theorem d_M_result_22 : decode b_M_result 22 = .ok (.ireturn, 1) := by decide +kernel
theorem d_M_result_23 : decode b_M_result 23 = .ok (.aload_n 0, 1) := by decide +kernel
theorem d_M_result_24 : decode b_M_result 24 = .ok (.getfield 17, 3) := by decide +kernel
theorem d_M_result_27 : decode b_M_result 27 = .ok (.iload_n 1, 1) := by decide +kernel
theorem d_M_result_28 : decode b_M_result 28 = .ok (.baload, 1) := by decide +kernel
theorem d_M_result_29 : decode b_M_result 29 = .ok (.sipush 255, 3) := by decide +kernel
theorem d_M_result_32 : decode b_M_result 32 = .ok (.iand, 1) := by decide +kernel
theorem d_M_result_33 : decode b_M_result 33 = .ok (.ireturn, 1) := by decide +kernel
theorem d_M_thrown_0 : decode b_M_thrown 0 = .ok (.aload_n 0, 1) := by decide +kernel
theorem d_M_thrown_1 : decode b_M_thrown 1 = .ok (.getfield 211, 3) := by decide +kernel
theorem d_M_thrown_4 : decode b_M_thrown 4 = .ok (.ireturn, 1) := by decide +kernel
theorem d_M_key_0 : decode b_M_key 0 = .ok (.aload_n 0, 1) := by decide +kernel
theorem d_M_key_1 : decode b_M_key 1 = .ok (.iconst 0, 1) := by decide +kernel
theorem d_M_key_2 : decode b_M_key 2 = .ok (.putfield 211, 3) := by decide +kernel
theorem d_M_key_5 : decode b_M_key 5 = .ok (.aload_n 0, 1) := by decide +kernel
theorem d_M_key_6 : decode b_M_key 6 = .ok (.getfield 315, 3) := by decide +kernel
theorem d_M_key_9 : decode b_M_key 9 = .ok (.bipush 32, 2) := by decide +kernel
theorem d_M_key_11 : decode b_M_key 11 = .ok (.if_icmp .eq 9, 3) := by decide +kernel
theorem d_M_key_14 : decode b_M_key 14 = .ok (.aload_n 0, 1) := by decide +kernel
theorem d_M_key_15 : decode b_M_key 15 = .ok (.iconst 1, 1) := by decide +kernel
theorem d_M_key_16 : decode b_M_key 16 = .ok (.invokevirtual 319, 3) := by decide +kernel
theorem d_M_key_19 : decode b_M_key 19 = .ok (.ireturn, 1) := by decide +kernel
theorem d_M_key_20 : decode b_M_key 20 = .ok (.aload_n 0, 1) := by decide +kernel
theorem d_M_key_21 : decode b_M_key 21 = .ok (.getfield 322, 3) := by decide +kernel
theorem d_M_key_24 : decode b_M_key 24 = .ok (.bipush 100, 2) := by decide +kernel
theorem d_M_key_26 : decode b_M_key 26 = .ok (.if_icmp .ne 9, 3) := by decide +kernel
theorem d_M_key_29 : decode b_M_key 29 = .ok (.aload_n 0, 1) := by decide +kernel
theorem d_M_key_30 : decode b_M_key 30 = .ok (.iconst 2, 1) := by decide +kernel
theorem d_M_key_31 : decode b_M_key 31 = .ok (.invokevirtual 319, 3) := by decide +kernel
theorem d_M_key_34 : decode b_M_key 34 = .ok (.ireturn, 1) := by decide +kernel
theorem d_M_key_35 : decode b_M_key 35 = .ok (.iconst 0, 1) := by decide +kernel
theorem d_M_key_36 : decode b_M_key 36 = .ok (.istore_n 1, 1) := by decide +kernel
theorem d_M_key_37 : decode b_M_key 37 = .ok (.iload_n 1, 1) := by decide +kernel
theorem d_M_key_38 : decode b_M_key 38 = .ok (.bipush 32, 2) := by decide +kernel
theorem d_M_key_40 : decode b_M_key 40 = .ok (.if_icmp .ge 29, 3) := by decide +kernel
theorem d_M_key_43 : decode b_M_key 43 = .ok (.aload_n 0, 1) := by decide +kernel
theorem d_M_key_44 : decode b_M_key 44 = .ok (.getfield 20, 3) := by decide +kernel
theorem d_M_verify_0 : decode b_M_verify 0 = .ok (.aload_n 0, 1) := by decide +kernel
theorem d_M_verify_1 : decode b_M_verify 1 = .ok (.iconst 0, 1) := by decide +kernel
theorem d_M_verify_2 : decode b_M_verify 2 = .ok (.putfield 211, 3) := by decide +kernel
theorem d_M_verify_5 : decode b_M_verify 5 = .ok (.aload_n 0, 1) := by decide +kernel
theorem d_M_verify_6 : decode b_M_verify 6 = .ok (.getfield 315, 3) := by decide +kernel
theorem d_M_verify_9 : decode b_M_verify 9 = .ok (.bipush 96, 2) := by decide +kernel
theorem d_M_verify_11 : decode b_M_verify 11 = .ok (.if_icmp .eq 9, 3) := by decide +kernel
theorem d_M_verify_14 : decode b_M_verify 14 = .ok (.aload_n 0, 1) := by decide +kernel
theorem d_M_verify_15 : decode b_M_verify 15 = .ok (.iconst 1, 1) := by decide +kernel
theorem d_M_verify_16 : decode b_M_verify 16 = .ok (.invokevirtual 319, 3) := by decide +kernel
theorem d_M_verify_19 : decode b_M_verify 19 = .ok (.ireturn, 1) := by decide +kernel
theorem d_M_verify_20 : decode b_M_verify 20 = .ok (.aload_n 0, 1) := by decide +kernel
theorem d_M_verify_21 : decode b_M_verify 21 = .ok (.invokevirtual 349, 3) := by decide +kernel
theorem d_M_verify_24 : decode b_M_verify 24 = .ok (.istore_n 1, 1) := by decide +kernel
theorem d_M_verify_25 : decode b_M_verify 25 = .ok (.aload_n 0, 1) := by decide +kernel
theorem d_M_verify_26 : decode b_M_verify 26 = .ok (.iconst 0, 1) := by decide +kernel
theorem d_M_verify_27 : decode b_M_verify 27 = .ok (.putfield 315, 3) := by decide +kernel
theorem d_M_verify_30 : decode b_M_verify 30 = .ok (.aload_n 0, 1) := by decide +kernel
theorem d_M_verify_31 : decode b_M_verify 31 = .ok (.getfield 23, 3) := by decide +kernel
theorem d_M_verify_34 : decode b_M_verify 34 = .ok (.iconst 1, 1) := by decide +kernel
theorem d_M_verify_35 : decode b_M_verify 35 = .ok (.iload_n 1, 1) := by decide +kernel
theorem d_M_verify_36 : decode b_M_verify 36 = .ok (.iadd, 1) := by decide +kernel
theorem d_M_verify_37 : decode b_M_verify 37 = .ok (.dup2, 1) := by decide +kernel
theorem d_M_verify_38 : decode b_M_verify 38 = .ok (.iaload, 1) := by decide +kernel
theorem d_M_verify_39 : decode b_M_verify 39 = .ok (.iconst 1, 1) := by decide +kernel
theorem d_M_verify_40 : decode b_M_verify 40 = .ok (.iadd, 1) := by decide +kernel
theorem d_M_point_0 : decode b_M_point 0 = .ok (.aload_n 0, 1) := by decide +kernel
theorem d_M_point_1 : decode b_M_point 1 = .ok (.iconst 0, 1) := by decide +kernel
theorem d_M_point_2 : decode b_M_point 2 = .ok (.putfield 211, 3) := by decide +kernel
theorem d_M_point_5 : decode b_M_point 5 = .ok (.aload_n 0, 1) := by decide +kernel
theorem d_M_point_6 : decode b_M_point 6 = .ok (.getfield 315, 3) := by decide +kernel
theorem d_M_point_9 : decode b_M_point 9 = .ok (.bipush 32, 2) := by decide +kernel
theorem d_M_point_11 : decode b_M_point 11 = .ok (.if_icmp .eq 10, 3) := by decide +kernel
theorem d_M_point_14 : decode b_M_point 14 = .ok (.aload_n 0, 1) := by decide +kernel
theorem d_M_point_15 : decode b_M_point 15 = .ok (.iconst 1, 1) := by decide +kernel
theorem d_M_point_16 : decode b_M_point 16 = .ok (.putfield 211, 3) := by decide +kernel
theorem d_M_point_19 : decode b_M_point 19 = .ok (.iconst 0, 1) := by decide +kernel
theorem d_M_point_20 : decode b_M_point 20 = .ok (.ireturn, 1) := by decide +kernel
theorem d_M_point_21 : decode b_M_point 21 = .ok (.iconst 0, 1) := by decide +kernel
theorem d_M_point_22 : decode b_M_point 22 = .ok (.istore_n 1, 1) := by decide +kernel
theorem d_M_point_23 : decode b_M_point 23 = .ok (.iload_n 1, 1) := by decide +kernel
theorem d_M_point_24 : decode b_M_point 24 = .ok (.bipush 32, 2) := by decide +kernel
theorem d_M_point_26 : decode b_M_point 26 = .ok (.if_icmp .ge 21, 3) := by decide +kernel
theorem d_M_point_29 : decode b_M_point 29 = .ok (.aload_n 0, 1) := by decide +kernel
theorem d_M_point_30 : decode b_M_point 30 = .ok (.getfield 103, 3) := by decide +kernel
theorem d_M_point_33 : decode b_M_point 33 = .ok (.iload_n 1, 1) := by decide +kernel
theorem d_M_point_34 : decode b_M_point 34 = .ok (.aload_n 0, 1) := by decide +kernel
theorem d_M_point_35 : decode b_M_point 35 = .ok (.getfield 8, 3) := by decide +kernel
theorem d_M_point_38 : decode b_M_point 38 = .ok (.iload_n 1, 1) := by decide +kernel
theorem d_M_point_39 : decode b_M_point 39 = .ok (.baload, 1) := by decide +kernel
theorem d_M_point_40 : decode b_M_point 40 = .ok (.bastore, 1) := by decide +kernel
theorem d_M_point_41 : decode b_M_point 41 = .ok (.iinc 1 1, 3) := by decide +kernel
theorem d_M_open_0 : decode b_M_open 0 = .ok (.aload_n 0, 1) := by decide +kernel
theorem d_M_open_1 : decode b_M_open 1 = .ok (.aload_n 0, 1) := by decide +kernel
theorem d_M_open_2 : decode b_M_open 2 = .ok (.iload_n 1, 1) := by decide +kernel
theorem d_M_open_3 : decode b_M_open 3 = .ok (.invokevirtual 328, 3) := by decide +kernel
theorem d_M_open_6 : decode b_M_open 6 = .ok (.ifCond .eq 7, 3) := by decide +kernel
theorem d_M_open_9 : decode b_M_open 9 = .ok (.iconst 1, 1) := by decide +kernel
theorem d_M_open_10 : decode b_M_open 10 = .ok (.goto 17, 3) := by decide +kernel
theorem d_M_open_13 : decode b_M_open 13 = .ok (.iload_n 2, 1) := by decide +kernel
theorem d_M_open_14 : decode b_M_open 14 = .ok (.ifCond .lt 8, 3) := by decide +kernel
theorem d_M_open_17 : decode b_M_open 17 = .ok (.iload_n 2, 1) := by decide +kernel
theorem d_M_open_18 : decode b_M_open 18 = .ok (.iconst 1, 1) := by decide +kernel
theorem d_M_open_19 : decode b_M_open 19 = .ok (.if_icmp .le 7, 3) := by decide +kernel
theorem d_M_open_22 : decode b_M_open 22 = .ok (.iconst 2, 1) := by decide +kernel
theorem d_M_open_23 : decode b_M_open 23 = .ok (.goto 4, 3) := by decide +kernel
theorem d_M_open_26 : decode b_M_open 26 = .ok (.iconst 0, 1) := by decide +kernel
theorem d_M_open_27 : decode b_M_open 27 = .ok (.putfield 211, 3) := by decide +kernel
theorem d_M_open_30 : decode b_M_open 30 = .ok (.aload_n 0, 1) := by decide +kernel
theorem d_M_open_31 : decode b_M_open 31 = .ok (.getfield 211, 3) := by decide +kernel
theorem d_M_open_34 : decode b_M_open 34 = .ok (.ifCond .le 4, 3) := by decide +kernel
theorem d_M_open_37 : decode b_M_open 37 = .ok (.return_, 1) := by decide +kernel
theorem d_M_open_38 : decode b_M_open 38 = .ok (.iload_n 2, 1) := by decide +kernel
theorem d_M_open_39 : decode b_M_open 39 = .ok (.iconst 1, 1) := by decide +kernel
theorem d_M_open_40 : decode b_M_open 40 = .ok (.if_icmp .ne 20, 3) := by decide +kernel
theorem d_M_open_43 : decode b_M_open 43 = .ok (.aload_n 0, 1) := by decide +kernel
theorem d_M_open_44 : decode b_M_open 44 = .ok (.iload_n 1, 1) := by decide +kernel
theorem d_M_open_45 : decode b_M_open 45 = .ok (.invokevirtual 332, 3) := by decide +kernel
theorem d_M_agree_0 : decode b_M_agree 0 = .ok (.aload_n 0, 1) := by decide +kernel
theorem d_M_agree_1 : decode b_M_agree 1 = .ok (.aload_n 0, 1) := by decide +kernel
theorem d_M_agree_2 : decode b_M_agree 2 = .ok (.iload_n 1, 1) := by decide +kernel
theorem d_M_agree_3 : decode b_M_agree 3 = .ok (.invokevirtual 328, 3) := by decide +kernel
theorem d_M_agree_6 : decode b_M_agree 6 = .ok (.ifCond .eq 7, 3) := by decide +kernel
theorem d_M_agree_9 : decode b_M_agree 9 = .ok (.iconst 1, 1) := by decide +kernel
theorem d_M_agree_10 : decode b_M_agree 10 = .ok (.goto 17, 3) := by decide +kernel
theorem d_M_agree_13 : decode b_M_agree 13 = .ok (.aload_n 0, 1) := by decide +kernel
theorem d_M_agree_14 : decode b_M_agree 14 = .ok (.getfield 315, 3) := by decide +kernel
theorem d_M_agree_17 : decode b_M_agree 17 = .ok (.bipush 32, 2) := by decide +kernel
theorem d_M_agree_19 : decode b_M_agree 19 = .ok (.if_icmp .eq 7, 3) := by decide +kernel
theorem d_M_agree_22 : decode b_M_agree 22 = .ok (.iconst 2, 1) := by decide +kernel
theorem d_M_agree_23 : decode b_M_agree 23 = .ok (.goto 4, 3) := by decide +kernel
theorem d_M_agree_26 : decode b_M_agree 26 = .ok (.iconst 0, 1) := by decide +kernel
theorem d_M_agree_27 : decode b_M_agree 27 = .ok (.putfield 211, 3) := by decide +kernel
theorem d_M_agree_30 : decode b_M_agree 30 = .ok (.aload_n 0, 1) := by decide +kernel
theorem d_M_agree_31 : decode b_M_agree 31 = .ok (.getfield 211, 3) := by decide +kernel
theorem d_M_agree_34 : decode b_M_agree 34 = .ok (.ifCond .le 5, 3) := by decide +kernel
theorem d_M_agree_37 : decode b_M_agree 37 = .ok (.iconst 0, 1) := by decide +kernel
theorem d_M_agree_38 : decode b_M_agree 38 = .ok (.ireturn, 1) := by decide +kernel
theorem d_M_agree_39 : decode b_M_agree 39 = .ok (.aload_n 0, 1) := by decide +kernel
theorem d_M_agree_40 : decode b_M_agree 40 = .ok (.aload_n 0, 1) := by decide +kernel
theorem d_M_agree_41 : decode b_M_agree 41 = .ok (.getfield 91, 3) := by decide +kernel
theorem d_M_agree_44 : decode b_M_agree 44 = .ok (.aload_n 0, 1) := by decide +kernel
theorem d_M_agree_45 : decode b_M_agree 45 = .ok (.getfield 20, 3) := by decide +kernel
theorem d_M_agree_48 : decode b_M_agree 48 = .ok (.bipush 32, 2) := by decide +kernel
theorem d_M_sign_0 : decode b_M_sign 0 = .ok (.aload_n 0, 1) := by decide +kernel
theorem d_M_sign_1 : decode b_M_sign 1 = .ok (.aload_n 0, 1) := by decide +kernel
theorem d_M_sign_2 : decode b_M_sign 2 = .ok (.iload_n 1, 1) := by decide +kernel
theorem d_M_sign_3 : decode b_M_sign 3 = .ok (.invokevirtual 328, 3) := by decide +kernel
theorem d_M_sign_6 : decode b_M_sign 6 = .ok (.ifCond .eq 7, 3) := by decide +kernel
theorem d_M_sign_9 : decode b_M_sign 9 = .ok (.iconst 1, 1) := by decide +kernel
theorem d_M_sign_10 : decode b_M_sign 10 = .ok (.goto 4, 3) := by decide +kernel
theorem d_M_sign_13 : decode b_M_sign 13 = .ok (.iconst 0, 1) := by decide +kernel
theorem d_M_sign_14 : decode b_M_sign 14 = .ok (.putfield 211, 3) := by decide +kernel
theorem d_M_sign_17 : decode b_M_sign 17 = .ok (.aload_n 0, 1) := by decide +kernel
theorem d_M_sign_18 : decode b_M_sign 18 = .ok (.getfield 211, 3) := by decide +kernel
theorem d_M_sign_21 : decode b_M_sign 21 = .ok (.ifCond .le 4, 3) := by decide +kernel
theorem d_M_sign_24 : decode b_M_sign 24 = .ok (.return_, 1) := by decide +kernel
theorem d_M_sign_25 : decode b_M_sign 25 = .ok (.aload_n 0, 1) := by decide +kernel
theorem d_M_sign_26 : decode b_M_sign 26 = .ok (.iload_n 1, 1) := by decide +kernel
theorem d_M_sign_27 : decode b_M_sign 27 = .ok (.invokevirtual 332, 3) := by decide +kernel
theorem d_M_sign_30 : decode b_M_sign 30 = .ok (.iconst 0, 1) := by decide +kernel
theorem d_M_sign_31 : decode b_M_sign 31 = .ok (.istore_n 2, 1) := by decide +kernel
theorem d_M_sign_32 : decode b_M_sign 32 = .ok (.iload_n 2, 1) := by decide +kernel
theorem d_M_sign_33 : decode b_M_sign 33 = .ok (.bipush 32, 2) := by decide +kernel
theorem d_M_sign_35 : decode b_M_sign 35 = .ok (.if_icmp .ge 24, 3) := by decide +kernel
theorem d_M_sign_38 : decode b_M_sign 38 = .ok (.aload_n 0, 1) := by decide +kernel
theorem d_M_sign_39 : decode b_M_sign 39 = .ok (.getfield 113, 3) := by decide +kernel
theorem d_M_sign_42 : decode b_M_sign 42 = .ok (.iload_n 2, 1) := by decide +kernel
theorem d_M_sign_43 : decode b_M_sign 43 = .ok (.aload_n 0, 1) := by decide +kernel
theorem d_M_sign_44 : decode b_M_sign 44 = .ok (.getfield 159, 3) := by decide +kernel
