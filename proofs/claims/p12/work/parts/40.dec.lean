theorem d_K_isZeroStart_0 : decode b_K_isZeroStart 0 = .ok (.iconst 0, 1) := by decide +kernel
theorem d_K_isZeroStart_1 : decode b_K_isZeroStart 1 = .ok (.istore_n 1, 1) := by decide +kernel
theorem d_K_isZeroStart_2 : decode b_K_isZeroStart 2 = .ok (.iconst 0, 1) := by decide +kernel
theorem d_K_isZeroStart_3 : decode b_K_isZeroStart 3 = .ok (.istore_n 2, 1) := by decide +kernel
theorem d_K_isZeroStart_4 : decode b_K_isZeroStart 4 = .ok (.iload_n 2, 1) := by decide +kernel
theorem d_K_isZeroStart_5 : decode b_K_isZeroStart 5 = .ok (.bipush 32, 2) := by decide +kernel
theorem d_K_isZeroStart_7 : decode b_K_isZeroStart 7 = .ok (.if_icmp .ge 15, 3) := by decide +kernel
theorem d_K_isZeroStart_10 : decode b_K_isZeroStart 10 = .ok (.iload_n 1, 1) := by decide +kernel
theorem d_K_isZeroStart_11 : decode b_K_isZeroStart 11 = .ok (.aload_n 0, 1) := by decide +kernel
theorem d_K_isZeroStart_12 : decode b_K_isZeroStart 12 = .ok (.iload_n 2, 1) := by decide +kernel
theorem d_K_isZeroStart_13 : decode b_K_isZeroStart 13 = .ok (.baload, 1) := by decide +kernel
theorem d_K_isZeroStart_14 : decode b_K_isZeroStart 14 = .ok (.ior, 1) := by decide +kernel
theorem d_K_isZeroStart_15 : decode b_K_isZeroStart 15 = .ok (.istore_n 1, 1) := by decide +kernel
theorem d_K_isZeroStart_16 : decode b_K_isZeroStart 16 = .ok (.iinc 2 1, 3) := by decide +kernel
theorem d_K_isZeroStart_19 : decode b_K_isZeroStart 19 = .ok (.goto (-15), 3) := by decide +kernel
theorem d_K_isZeroStart_22 : decode b_K_isZeroStart 22 = .ok (.iload_n 1, 1) := by decide +kernel
theorem d_K_isZeroStart_23 : decode b_K_isZeroStart 23 = .ok (.ifCond .ne 7, 3) := by decide +kernel
theorem d_K_isZeroStart_26 : decode b_K_isZeroStart 26 = .ok (.iconst 1, 1) := by decide +kernel
theorem d_K_isZeroStart_27 : decode b_K_isZeroStart 27 = .ok (.goto 4, 3) := by decide +kernel
theorem d_K_isZeroStart_30 : decode b_K_isZeroStart 30 = .ok (.iconst 0, 1) := by decide +kernel
theorem d_K_isZeroStart_31 : decode b_K_isZeroStart 31 = .ok (.ireturn, 1) := by decide +kernel
theorem d_K_isSameStart_0 : decode b_K_isSameStart 0 = .ok (.iconst 0, 1) := by decide +kernel
theorem d_K_isSameStart_1 : decode b_K_isSameStart 1 = .ok (.istore_n 2, 1) := by decide +kernel
theorem d_K_isSameStart_2 : decode b_K_isSameStart 2 = .ok (.iconst 0, 1) := by decide +kernel
theorem d_K_isSameStart_3 : decode b_K_isSameStart 3 = .ok (.istore_n 3, 1) := by decide +kernel
theorem d_K_isSameStart_4 : decode b_K_isSameStart 4 = .ok (.iload_n 3, 1) := by decide +kernel
theorem d_K_isSameStart_5 : decode b_K_isSameStart 5 = .ok (.bipush 32, 2) := by decide +kernel
theorem d_K_isSameStart_7 : decode b_K_isSameStart 7 = .ok (.if_icmp .ge 19, 3) := by decide +kernel
theorem d_K_isSameStart_10 : decode b_K_isSameStart 10 = .ok (.iload_n 2, 1) := by decide +kernel
theorem d_K_isSameStart_11 : decode b_K_isSameStart 11 = .ok (.aload_n 0, 1) := by decide +kernel
theorem d_K_isSameStart_12 : decode b_K_isSameStart 12 = .ok (.iload_n 3, 1) := by decide +kernel
theorem d_K_isSameStart_13 : decode b_K_isSameStart 13 = .ok (.baload, 1) := by decide +kernel
theorem d_K_isSameStart_14 : decode b_K_isSameStart 14 = .ok (.aload_n 1, 1) := by decide +kernel
theorem d_K_isSameStart_15 : decode b_K_isSameStart 15 = .ok (.iload_n 3, 1) := by decide +kernel
theorem d_K_isSameStart_16 : decode b_K_isSameStart 16 = .ok (.baload, 1) := by decide +kernel
theorem d_K_isSameStart_17 : decode b_K_isSameStart 17 = .ok (.ixor, 1) := by decide +kernel
theorem d_K_isSameStart_18 : decode b_K_isSameStart 18 = .ok (.ior, 1) := by decide +kernel
theorem d_K_isSameStart_19 : decode b_K_isSameStart 19 = .ok (.istore_n 2, 1) := by decide +kernel
theorem d_K_isSameStart_20 : decode b_K_isSameStart 20 = .ok (.iinc 3 1, 3) := by decide +kernel
theorem d_K_isSameStart_23 : decode b_K_isSameStart 23 = .ok (.goto (-19), 3) := by decide +kernel
theorem d_K_isSameStart_26 : decode b_K_isSameStart 26 = .ok (.iload_n 2, 1) := by decide +kernel
theorem d_K_isSameStart_27 : decode b_K_isSameStart 27 = .ok (.ifCond .ne 7, 3) := by decide +kernel
theorem d_K_isSameStart_30 : decode b_K_isSameStart 30 = .ok (.iconst 1, 1) := by decide +kernel
theorem d_K_isSameStart_31 : decode b_K_isSameStart 31 = .ok (.goto 4, 3) := by decide +kernel
theorem d_K_isSameStart_34 : decode b_K_isSameStart 34 = .ok (.iconst 0, 1) := by decide +kernel
theorem d_K_isSameStart_35 : decode b_K_isSameStart 35 = .ok (.ireturn, 1) := by decide +kernel
theorem d_K_clamp_0 : decode b_K_clamp 0 = .ok (.aload_n 0, 1) := by decide +kernel
theorem d_K_clamp_1 : decode b_K_clamp 1 = .ok (.iconst 0, 1) := by decide +kernel
theorem d_K_clamp_2 : decode b_K_clamp 2 = .ok (.dup2, 1) := by decide +kernel
theorem d_K_clamp_3 : decode b_K_clamp 3 = .ok (.baload, 1) := by decide +kernel
theorem d_K_clamp_4 : decode b_K_clamp 4 = .ok (.bipush (-8), 2) := by decide +kernel
theorem d_K_clamp_6 : decode b_K_clamp 6 = .ok (.iand, 1) := by decide +kernel
theorem d_K_clamp_7 : decode b_K_clamp 7 = .ok (.i2b, 1) := by decide +kernel
theorem d_K_clamp_8 : decode b_K_clamp 8 = .ok (.bastore, 1) := by decide +kernel
theorem d_K_clamp_9 : decode b_K_clamp 9 = .ok (.aload_n 0, 1) := by decide +kernel
theorem d_K_clamp_10 : decode b_K_clamp 10 = .ok (.bipush 31, 2) := by decide +kernel
theorem d_K_clamp_12 : decode b_K_clamp 12 = .ok (.dup2, 1) := by decide +kernel
theorem d_K_clamp_13 : decode b_K_clamp 13 = .ok (.baload, 1) := by decide +kernel
theorem d_K_clamp_14 : decode b_K_clamp 14 = .ok (.bipush 127, 2) := by decide +kernel
theorem d_K_clamp_16 : decode b_K_clamp 16 = .ok (.iand, 1) := by decide +kernel
theorem d_K_clamp_17 : decode b_K_clamp 17 = .ok (.i2b, 1) := by decide +kernel
theorem d_K_clamp_18 : decode b_K_clamp 18 = .ok (.bastore, 1) := by decide +kernel
theorem d_K_clamp_19 : decode b_K_clamp 19 = .ok (.aload_n 0, 1) := by decide +kernel
theorem d_K_clamp_20 : decode b_K_clamp 20 = .ok (.bipush 31, 2) := by decide +kernel
theorem d_K_clamp_22 : decode b_K_clamp 22 = .ok (.dup2, 1) := by decide +kernel
theorem d_K_clamp_23 : decode b_K_clamp 23 = .ok (.baload, 1) := by decide +kernel
theorem d_K_clamp_24 : decode b_K_clamp 24 = .ok (.bipush 64, 2) := by decide +kernel
theorem d_K_clamp_26 : decode b_K_clamp 26 = .ok (.ior, 1) := by decide +kernel
theorem d_K_clamp_27 : decode b_K_clamp 27 = .ok (.i2b, 1) := by decide +kernel
theorem d_K_clamp_28 : decode b_K_clamp 28 = .ok (.bastore, 1) := by decide +kernel
theorem d_K_clamp_29 : decode b_K_clamp 29 = .ok (.return_, 1) := by decide +kernel
theorem d_Pt_setNeutral_0 : decode b_Pt_setNeutral 0 = .ok (.aload_n 0, 1) := by decide +kernel
theorem d_Pt_setNeutral_1 : decode b_Pt_setNeutral 1 = .ok (.getfield 9, 3) := by decide +kernel
theorem d_Pt_setNeutral_4 : decode b_Pt_setNeutral 4 = .ok (.lconst 0, 1) := by decide +kernel
theorem d_Pt_setNeutral_5 : decode b_Pt_setNeutral 5 = .ok (.invokestatic 24, 3) := by decide +kernel
theorem d_Pt_setNeutral_8 : decode b_Pt_setNeutral 8 = .ok (.aload_n 0, 1) := by decide +kernel
theorem d_Pt_setNeutral_9 : decode b_Pt_setNeutral 9 = .ok (.getfield 15, 3) := by decide +kernel
theorem d_Pt_setNeutral_12 : decode b_Pt_setNeutral 12 = .ok (.lconst 1, 1) := by decide +kernel
theorem d_Pt_setNeutral_13 : decode b_Pt_setNeutral 13 = .ok (.invokestatic 24, 3) := by decide +kernel
theorem d_Pt_setNeutral_16 : decode b_Pt_setNeutral 16 = .ok (.aload_n 0, 1) := by decide +kernel
theorem d_Pt_setNeutral_17 : decode b_Pt_setNeutral 17 = .ok (.getfield 18, 3) := by decide +kernel
theorem d_Pt_setNeutral_20 : decode b_Pt_setNeutral 20 = .ok (.lconst 1, 1) := by decide +kernel
theorem d_Pt_setNeutral_21 : decode b_Pt_setNeutral 21 = .ok (.invokestatic 24, 3) := by decide +kernel
theorem d_Pt_setNeutral_24 : decode b_Pt_setNeutral 24 = .ok (.aload_n 0, 1) := by decide +kernel
theorem d_Pt_setNeutral_25 : decode b_Pt_setNeutral 25 = .ok (.getfield 21, 3) := by decide +kernel
theorem d_Pt_setNeutral_28 : decode b_Pt_setNeutral 28 = .ok (.lconst 0, 1) := by decide +kernel
theorem d_Pt_setNeutral_29 : decode b_Pt_setNeutral 29 = .ok (.invokestatic 24, 3) := by decide +kernel
theorem d_Pt_setNeutral_32 : decode b_Pt_setNeutral 32 = .ok (.return_, 1) := by decide +kernel
theorem d_Pt_setAffine_0 : decode b_Pt_setAffine 0 = .ok (.aload_n 0, 1) := by decide +kernel
theorem d_Pt_setAffine_1 : decode b_Pt_setAffine 1 = .ok (.getfield 9, 3) := by decide +kernel
theorem d_Pt_setAffine_4 : decode b_Pt_setAffine 4 = .ok (.aload_n 1, 1) := by decide +kernel
theorem d_Pt_setAffine_5 : decode b_Pt_setAffine 5 = .ok (.invokestatic 28, 3) := by decide +kernel
theorem d_Pt_setAffine_8 : decode b_Pt_setAffine 8 = .ok (.aload_n 0, 1) := by decide +kernel
theorem d_Pt_setAffine_9 : decode b_Pt_setAffine 9 = .ok (.getfield 15, 3) := by decide +kernel
theorem d_Pt_setAffine_12 : decode b_Pt_setAffine 12 = .ok (.aload_n 2, 1) := by decide +kernel
theorem d_Pt_setAffine_13 : decode b_Pt_setAffine 13 = .ok (.invokestatic 28, 3) := by decide +kernel
theorem d_Pt_setAffine_16 : decode b_Pt_setAffine 16 = .ok (.aload_n 0, 1) := by decide +kernel
theorem d_Pt_setAffine_17 : decode b_Pt_setAffine 17 = .ok (.getfield 18, 3) := by decide +kernel
theorem d_Pt_setAffine_20 : decode b_Pt_setAffine 20 = .ok (.lconst 1, 1) := by decide +kernel
theorem d_Pt_setAffine_21 : decode b_Pt_setAffine 21 = .ok (.invokestatic 24, 3) := by decide +kernel
theorem d_Pt_setAffine_24 : decode b_Pt_setAffine 24 = .ok (.aload_n 0, 1) := by decide +kernel
theorem d_Pt_setAffine_25 : decode b_Pt_setAffine 25 = .ok (.getfield 21, 3) := by decide +kernel
theorem d_Pt_setAffine_28 : decode b_Pt_setAffine 28 = .ok (.aload_n 1, 1) := by decide +kernel
theorem d_Pt_setAffine_29 : decode b_Pt_setAffine 29 = .ok (.aload_n 2, 1) := by decide +kernel
theorem d_Pt_setAffine_30 : decode b_Pt_setAffine 30 = .ok (.invokestatic 32, 3) := by decide +kernel
theorem d_Pt_setAffine_33 : decode b_Pt_setAffine 33 = .ok (.return_, 1) := by decide +kernel
theorem d_Pt_negate_0 : decode b_Pt_negate 0 = .ok (.aload_n 0, 1) := by decide +kernel
theorem d_Pt_negate_1 : decode b_Pt_negate 1 = .ok (.getfield 9, 3) := by decide +kernel
theorem d_Pt_negate_4 : decode b_Pt_negate 4 = .ok (.aload_n 0, 1) := by decide +kernel
theorem d_Pt_negate_5 : decode b_Pt_negate 5 = .ok (.getfield 9, 3) := by decide +kernel
theorem d_Pt_negate_8 : decode b_Pt_negate 8 = .ok (.invokestatic 36, 3) := by decide +kernel
theorem d_Pt_negate_11 : decode b_Pt_negate 11 = .ok (.aload_n 0, 1) := by decide +kernel
theorem d_Pt_negate_12 : decode b_Pt_negate 12 = .ok (.getfield 21, 3) := by decide +kernel
theorem d_Pt_negate_15 : decode b_Pt_negate 15 = .ok (.aload_n 0, 1) := by decide +kernel
theorem d_Pt_negate_16 : decode b_Pt_negate 16 = .ok (.getfield 21, 3) := by decide +kernel
theorem d_Pt_negate_19 : decode b_Pt_negate 19 = .ok (.invokestatic 36, 3) := by decide +kernel
theorem d_Pt_negate_22 : decode b_Pt_negate 22 = .ok (.return_, 1) := by decide +kernel
theorem d_Ad_set_0 : decode b_Ad_set 0 = .ok (.aload_n 0, 1) := by decide +kernel
theorem d_Ad_set_1 : decode b_Ad_set 1 = .ok (.getfield 9, 3) := by decide +kernel
theorem d_Ad_set_4 : decode b_Ad_set 4 = .ok (.aload_n 1, 1) := by decide +kernel
theorem d_Ad_set_5 : decode b_Ad_set 5 = .ok (.getfield 24, 3) := by decide +kernel
theorem d_Ad_set_8 : decode b_Ad_set 8 = .ok (.aload_n 1, 1) := by decide +kernel
theorem d_Ad_set_9 : decode b_Ad_set 9 = .ok (.getfield 29, 3) := by decide +kernel
theorem d_Ad_set_12 : decode b_Ad_set 12 = .ok (.invokestatic 32, 3) := by decide +kernel
theorem d_Ad_set_15 : decode b_Ad_set 15 = .ok (.aload_n 0, 1) := by decide +kernel
theorem d_Ad_set_16 : decode b_Ad_set 16 = .ok (.getfield 15, 3) := by decide +kernel
theorem d_Ad_set_19 : decode b_Ad_set 19 = .ok (.aload_n 1, 1) := by decide +kernel
theorem d_Ad_set_20 : decode b_Ad_set 20 = .ok (.getfield 24, 3) := by decide +kernel
theorem d_Ad_set_23 : decode b_Ad_set 23 = .ok (.aload_n 1, 1) := by decide +kernel
theorem d_Ad_set_24 : decode b_Ad_set 24 = .ok (.getfield 29, 3) := by decide +kernel
theorem d_Ad_set_27 : decode b_Ad_set 27 = .ok (.invokestatic 36, 3) := by decide +kernel
theorem d_Ad_set_30 : decode b_Ad_set 30 = .ok (.aload_n 0, 1) := by decide +kernel
theorem d_Ad_set_31 : decode b_Ad_set 31 = .ok (.getfield 18, 3) := by decide +kernel
theorem d_Ad_set_34 : decode b_Ad_set 34 = .ok (.aload_n 1, 1) := by decide +kernel
theorem d_Ad_set_35 : decode b_Ad_set 35 = .ok (.getfield 39, 3) := by decide +kernel
theorem d_Ad_set_38 : decode b_Ad_set 38 = .ok (.aload_n 1, 1) := by decide +kernel
theorem d_Ad_set_39 : decode b_Ad_set 39 = .ok (.getfield 39, 3) := by decide +kernel
theorem d_Ad_set_42 : decode b_Ad_set 42 = .ok (.invokestatic 36, 3) := by decide +kernel
theorem d_Ad_set_45 : decode b_Ad_set 45 = .ok (.aload_n 0, 1) := by decide +kernel
theorem d_Ad_set_46 : decode b_Ad_set 46 = .ok (.getfield 21, 3) := by decide +kernel
theorem d_Ad_set_49 : decode b_Ad_set 49 = .ok (.aload_n 1, 1) := by decide +kernel
theorem d_Ad_set_50 : decode b_Ad_set 50 = .ok (.getfield 42, 3) := by decide +kernel
theorem d_Ad_set_53 : decode b_Ad_set 53 = .ok (.getstatic 45, 3) := by decide +kernel
theorem d_Ad_set_56 : decode b_Ad_set 56 = .ok (.invokestatic 50, 3) := by decide +kernel
theorem d_Ad_set_59 : decode b_Ad_set 59 = .ok (.return_, 1) := by decide +kernel
theorem d_Ed_join_0 : decode b_Ed_join 0 = .ok (.aload_n 1, 1) := by decide +kernel
theorem d_Ed_join_1 : decode b_Ed_join 1 = .ok (.getfield 94, 3) := by decide +kernel
theorem d_Ed_join_4 : decode b_Ed_join 4 = .ok (.aload_n 0, 1) := by decide +kernel
theorem d_Ed_join_5 : decode b_Ed_join 5 = .ok (.getfield 52, 3) := by decide +kernel
theorem d_Ed_join_8 : decode b_Ed_join 8 = .ok (.aload_n 0, 1) := by decide +kernel
theorem d_Ed_join_9 : decode b_Ed_join 9 = .ok (.getfield 55, 3) := by decide +kernel
theorem d_Ed_join_12 : decode b_Ed_join 12 = .ok (.invokestatic 104, 3) := by decide +kernel
theorem d_Ed_join_15 : decode b_Ed_join 15 = .ok (.aload_n 1, 1) := by decide +kernel
theorem d_Ed_join_16 : decode b_Ed_join 16 = .ok (.getfield 91, 3) := by decide +kernel
theorem d_Ed_join_19 : decode b_Ed_join 19 = .ok (.aload_n 0, 1) := by decide +kernel
theorem d_Ed_join_20 : decode b_Ed_join 20 = .ok (.getfield 58, 3) := by decide +kernel
theorem d_Ed_join_23 : decode b_Ed_join 23 = .ok (.aload_n 0, 1) := by decide +kernel
theorem d_Ed_join_24 : decode b_Ed_join 24 = .ok (.getfield 61, 3) := by decide +kernel
theorem d_Ed_join_27 : decode b_Ed_join 27 = .ok (.invokestatic 104, 3) := by decide +kernel
theorem d_Ed_join_30 : decode b_Ed_join 30 = .ok (.aload_n 1, 1) := by decide +kernel
theorem d_Ed_join_31 : decode b_Ed_join 31 = .ok (.getfield 112, 3) := by decide +kernel
theorem d_Ed_join_34 : decode b_Ed_join 34 = .ok (.aload_n 0, 1) := by decide +kernel
theorem d_Ed_join_35 : decode b_Ed_join 35 = .ok (.getfield 52, 3) := by decide +kernel
theorem d_Ed_join_38 : decode b_Ed_join 38 = .ok (.aload_n 0, 1) := by decide +kernel
theorem d_Ed_join_39 : decode b_Ed_join 39 = .ok (.getfield 61, 3) := by decide +kernel
theorem d_Ed_join_42 : decode b_Ed_join 42 = .ok (.invokestatic 104, 3) := by decide +kernel
theorem d_Ed_join_45 : decode b_Ed_join 45 = .ok (.aload_n 1, 1) := by decide +kernel
theorem d_Ed_join_46 : decode b_Ed_join 46 = .ok (.getfield 118, 3) := by decide +kernel
theorem d_Ed_join_49 : decode b_Ed_join 49 = .ok (.aload_n 0, 1) := by decide +kernel
theorem d_Ed_join_50 : decode b_Ed_join 50 = .ok (.getfield 55, 3) := by decide +kernel
theorem d_Ed_join_53 : decode b_Ed_join 53 = .ok (.aload_n 0, 1) := by decide +kernel
theorem d_Ed_join_54 : decode b_Ed_join 54 = .ok (.getfield 58, 3) := by decide +kernel
theorem d_Ed_join_57 : decode b_Ed_join 57 = .ok (.invokestatic 104, 3) := by decide +kernel
theorem d_Ed_join_60 : decode b_Ed_join 60 = .ok (.return_, 1) := by decide +kernel
theorem d_Ed_add_0 : decode b_Ed_add 0 = .ok (.aload_n 0, 1) := by decide +kernel
theorem d_Ed_add_1 : decode b_Ed_add 1 = .ok (.getfield 39, 3) := by decide +kernel
theorem d_Ed_add_4 : decode b_Ed_add 4 = .ok (.aload_n 1, 1) := by decide +kernel
theorem d_Ed_add_5 : decode b_Ed_add 5 = .ok (.getfield 91, 3) := by decide +kernel
theorem d_Ed_add_8 : decode b_Ed_add 8 = .ok (.aload_n 1, 1) := by decide +kernel
theorem d_Ed_add_9 : decode b_Ed_add 9 = .ok (.getfield 94, 3) := by decide +kernel
theorem d_Ed_add_12 : decode b_Ed_add 12 = .ok (.invokestatic 97, 3) := by decide +kernel
theorem d_Ed_add_15 : decode b_Ed_add 15 = .ok (.aload_n 0, 1) := by decide +kernel
theorem d_Ed_add_16 : decode b_Ed_add 16 = .ok (.getfield 39, 3) := by decide +kernel
theorem d_Ed_add_19 : decode b_Ed_add 19 = .ok (.aload_n 0, 1) := by decide +kernel
theorem d_Ed_add_20 : decode b_Ed_add 20 = .ok (.getfield 39, 3) := by decide +kernel
theorem d_Ed_add_23 : decode b_Ed_add 23 = .ok (.aload_n 2, 1) := by decide +kernel
theorem d_Ed_add_24 : decode b_Ed_add 24 = .ok (.getfield 101, 3) := by decide +kernel
theorem d_Ed_add_27 : decode b_Ed_add 27 = .ok (.invokestatic 104, 3) := by decide +kernel
theorem d_Ed_add_30 : decode b_Ed_add 30 = .ok (.aload_n 0, 1) := by decide +kernel
theorem d_Ed_add_31 : decode b_Ed_add 31 = .ok (.getfield 43, 3) := by decide +kernel
theorem d_Ed_add_34 : decode b_Ed_add 34 = .ok (.aload_n 1, 1) := by decide +kernel
theorem d_Ed_add_35 : decode b_Ed_add 35 = .ok (.getfield 91, 3) := by decide +kernel
theorem d_Ed_add_38 : decode b_Ed_add 38 = .ok (.aload_n 1, 1) := by decide +kernel
theorem d_Ed_add_39 : decode b_Ed_add 39 = .ok (.getfield 94, 3) := by decide +kernel
theorem d_Ed_add_42 : decode b_Ed_add 42 = .ok (.invokestatic 107, 3) := by decide +kernel
theorem d_Ed_add_45 : decode b_Ed_add 45 = .ok (.aload_n 0, 1) := by decide +kernel
theorem d_Ed_add_46 : decode b_Ed_add 46 = .ok (.getfield 43, 3) := by decide +kernel
theorem d_Ed_add_49 : decode b_Ed_add 49 = .ok (.aload_n 0, 1) := by decide +kernel
theorem d_Ed_add_50 : decode b_Ed_add 50 = .ok (.getfield 43, 3) := by decide +kernel
theorem d_Ed_add_53 : decode b_Ed_add 53 = .ok (.aload_n 2, 1) := by decide +kernel
theorem d_Ed_add_54 : decode b_Ed_add 54 = .ok (.getfield 109, 3) := by decide +kernel
theorem d_Ed_add_57 : decode b_Ed_add 57 = .ok (.invokestatic 104, 3) := by decide +kernel
theorem d_Ed_add_60 : decode b_Ed_add 60 = .ok (.aload_n 0, 1) := by decide +kernel
theorem d_Ed_add_61 : decode b_Ed_add 61 = .ok (.getfield 46, 3) := by decide +kernel
theorem d_Ed_add_64 : decode b_Ed_add 64 = .ok (.aload_n 1, 1) := by decide +kernel
theorem d_Ed_add_65 : decode b_Ed_add 65 = .ok (.getfield 112, 3) := by decide +kernel
theorem d_Ed_add_68 : decode b_Ed_add 68 = .ok (.aload_n 2, 1) := by decide +kernel
theorem d_Ed_add_69 : decode b_Ed_add 69 = .ok (.getfield 115, 3) := by decide +kernel
theorem d_Ed_add_72 : decode b_Ed_add 72 = .ok (.invokestatic 104, 3) := by decide +kernel
theorem d_Ed_add_75 : decode b_Ed_add 75 = .ok (.aload_n 0, 1) := by decide +kernel
theorem d_Ed_add_76 : decode b_Ed_add 76 = .ok (.getfield 49, 3) := by decide +kernel
theorem d_Ed_add_79 : decode b_Ed_add 79 = .ok (.aload_n 1, 1) := by decide +kernel
theorem d_Ed_add_80 : decode b_Ed_add 80 = .ok (.getfield 118, 3) := by decide +kernel
theorem d_Ed_add_83 : decode b_Ed_add 83 = .ok (.aload_n 2, 1) := by decide +kernel
theorem d_Ed_add_84 : decode b_Ed_add 84 = .ok (.getfield 121, 3) := by decide +kernel
theorem d_Ed_add_87 : decode b_Ed_add 87 = .ok (.invokestatic 104, 3) := by decide +kernel
theorem d_Ed_add_90 : decode b_Ed_add 90 = .ok (.aload_n 0, 1) := by decide +kernel
theorem d_Ed_add_91 : decode b_Ed_add 91 = .ok (.getfield 52, 3) := by decide +kernel
theorem d_Ed_add_94 : decode b_Ed_add 94 = .ok (.aload_n 0, 1) := by decide +kernel
theorem d_Ed_add_95 : decode b_Ed_add 95 = .ok (.getfield 43, 3) := by decide +kernel
theorem d_Ed_add_98 : decode b_Ed_add 98 = .ok (.aload_n 0, 1) := by decide +kernel
theorem d_Ed_add_99 : decode b_Ed_add 99 = .ok (.getfield 39, 3) := by decide +kernel
theorem d_Ed_add_102 : decode b_Ed_add 102 = .ok (.invokestatic 97, 3) := by decide +kernel
theorem d_Ed_add_105 : decode b_Ed_add 105 = .ok (.aload_n 0, 1) := by decide +kernel
theorem d_Ed_add_106 : decode b_Ed_add 106 = .ok (.getfield 55, 3) := by decide +kernel
theorem d_Ed_add_109 : decode b_Ed_add 109 = .ok (.aload_n 0, 1) := by decide +kernel
theorem d_Ed_add_110 : decode b_Ed_add 110 = .ok (.getfield 49, 3) := by decide +kernel
theorem d_Ed_add_113 : decode b_Ed_add 113 = .ok (.aload_n 0, 1) := by decide +kernel
theorem d_Ed_add_114 : decode b_Ed_add 114 = .ok (.getfield 46, 3) := by decide +kernel
theorem d_Ed_add_117 : decode b_Ed_add 117 = .ok (.invokestatic 97, 3) := by decide +kernel
theorem d_Ed_add_120 : decode b_Ed_add 120 = .ok (.aload_n 0, 1) := by decide +kernel
theorem d_Ed_add_121 : decode b_Ed_add 121 = .ok (.getfield 58, 3) := by decide +kernel
theorem d_Ed_add_124 : decode b_Ed_add 124 = .ok (.aload_n 0, 1) := by decide +kernel
theorem d_Ed_add_125 : decode b_Ed_add 125 = .ok (.getfield 49, 3) := by decide +kernel
theorem d_Ed_add_128 : decode b_Ed_add 128 = .ok (.aload_n 0, 1) := by decide +kernel
theorem d_Ed_add_129 : decode b_Ed_add 129 = .ok (.getfield 46, 3) := by decide +kernel
theorem d_Ed_add_132 : decode b_Ed_add 132 = .ok (.invokestatic 107, 3) := by decide +kernel
theorem d_Ed_add_135 : decode b_Ed_add 135 = .ok (.aload_n 0, 1) := by decide +kernel
theorem d_Ed_add_136 : decode b_Ed_add 136 = .ok (.getfield 61, 3) := by decide +kernel
theorem d_Ed_add_139 : decode b_Ed_add 139 = .ok (.aload_n 0, 1) := by decide +kernel
theorem d_Ed_add_140 : decode b_Ed_add 140 = .ok (.getfield 43, 3) := by decide +kernel
theorem d_Ed_add_143 : decode b_Ed_add 143 = .ok (.aload_n 0, 1) := by decide +kernel
theorem d_Ed_add_144 : decode b_Ed_add 144 = .ok (.getfield 39, 3) := by decide +kernel
theorem d_Ed_add_147 : decode b_Ed_add 147 = .ok (.invokestatic 107, 3) := by decide +kernel
theorem d_Ed_add_150 : decode b_Ed_add 150 = .ok (.aload_n 0, 1) := by decide +kernel
theorem d_Ed_add_151 : decode b_Ed_add 151 = .ok (.aload_n 1, 1) := by decide +kernel
theorem d_Ed_add_152 : decode b_Ed_add 152 = .ok (.invokevirtual 124, 3) := by decide +kernel
theorem d_Ed_add_155 : decode b_Ed_add 155 = .ok (.return_, 1) := by decide +kernel
theorem d_Ed_twice_0 : decode b_Ed_twice 0 = .ok (.aload_n 0, 1) := by decide +kernel
theorem d_Ed_twice_1 : decode b_Ed_twice 1 = .ok (.getfield 39, 3) := by decide +kernel
theorem d_Ed_twice_4 : decode b_Ed_twice 4 = .ok (.aload_n 1, 1) := by decide +kernel
theorem d_Ed_twice_5 : decode b_Ed_twice 5 = .ok (.getfield 94, 3) := by decide +kernel
theorem d_Ed_twice_8 : decode b_Ed_twice 8 = .ok (.invokestatic 127, 3) := by decide +kernel
theorem d_Ed_twice_11 : decode b_Ed_twice 11 = .ok (.aload_n 0, 1) := by decide +kernel
theorem d_Ed_twice_12 : decode b_Ed_twice 12 = .ok (.getfield 43, 3) := by decide +kernel
theorem d_Ed_twice_15 : decode b_Ed_twice 15 = .ok (.aload_n 1, 1) := by decide +kernel
theorem d_Ed_twice_16 : decode b_Ed_twice 16 = .ok (.getfield 91, 3) := by decide +kernel
theorem d_Ed_twice_19 : decode b_Ed_twice 19 = .ok (.invokestatic 127, 3) := by decide +kernel
theorem d_Ed_twice_22 : decode b_Ed_twice 22 = .ok (.aload_n 0, 1) := by decide +kernel
theorem d_Ed_twice_23 : decode b_Ed_twice 23 = .ok (.getfield 46, 3) := by decide +kernel
theorem d_Ed_twice_26 : decode b_Ed_twice 26 = .ok (.aload_n 1, 1) := by decide +kernel
theorem d_Ed_twice_27 : decode b_Ed_twice 27 = .ok (.getfield 118, 3) := by decide +kernel
theorem d_Ed_twice_30 : decode b_Ed_twice 30 = .ok (.invokestatic 127, 3) := by decide +kernel
theorem d_Ed_twice_33 : decode b_Ed_twice 33 = .ok (.aload_n 0, 1) := by decide +kernel
theorem d_Ed_twice_34 : decode b_Ed_twice 34 = .ok (.getfield 46, 3) := by decide +kernel
theorem d_Ed_twice_37 : decode b_Ed_twice 37 = .ok (.aload_n 0, 1) := by decide +kernel
theorem d_Ed_twice_38 : decode b_Ed_twice 38 = .ok (.getfield 46, 3) := by decide +kernel
theorem d_Ed_twice_41 : decode b_Ed_twice 41 = .ok (.aload_n 0, 1) := by decide +kernel
theorem d_Ed_twice_42 : decode b_Ed_twice 42 = .ok (.getfield 46, 3) := by decide +kernel
theorem d_Ed_twice_45 : decode b_Ed_twice 45 = .ok (.invokestatic 107, 3) := by decide +kernel
theorem d_Ed_twice_48 : decode b_Ed_twice 48 = .ok (.aload_n 0, 1) := by decide +kernel
theorem d_Ed_twice_49 : decode b_Ed_twice 49 = .ok (.getfield 61, 3) := by decide +kernel
theorem d_Ed_twice_52 : decode b_Ed_twice 52 = .ok (.aload_n 0, 1) := by decide +kernel
theorem d_Ed_twice_53 : decode b_Ed_twice 53 = .ok (.getfield 39, 3) := by decide +kernel
theorem d_Ed_twice_56 : decode b_Ed_twice 56 = .ok (.aload_n 0, 1) := by decide +kernel
theorem d_Ed_twice_57 : decode b_Ed_twice 57 = .ok (.getfield 43, 3) := by decide +kernel
theorem d_Ed_twice_60 : decode b_Ed_twice 60 = .ok (.invokestatic 107, 3) := by decide +kernel
theorem d_Ed_twice_63 : decode b_Ed_twice 63 = .ok (.aload_n 0, 1) := by decide +kernel
theorem d_Ed_twice_64 : decode b_Ed_twice 64 = .ok (.getfield 52, 3) := by decide +kernel
theorem d_Ed_twice_67 : decode b_Ed_twice 67 = .ok (.aload_n 1, 1) := by decide +kernel
theorem d_Ed_twice_68 : decode b_Ed_twice 68 = .ok (.getfield 94, 3) := by decide +kernel
theorem d_Ed_twice_71 : decode b_Ed_twice 71 = .ok (.aload_n 1, 1) := by decide +kernel
theorem d_Ed_twice_72 : decode b_Ed_twice 72 = .ok (.getfield 91, 3) := by decide +kernel
theorem d_Ed_twice_75 : decode b_Ed_twice 75 = .ok (.invokestatic 107, 3) := by decide +kernel
theorem d_Ed_twice_78 : decode b_Ed_twice 78 = .ok (.aload_n 0, 1) := by decide +kernel
theorem d_Ed_twice_79 : decode b_Ed_twice 79 = .ok (.getfield 52, 3) := by decide +kernel
theorem d_Ed_twice_82 : decode b_Ed_twice 82 = .ok (.aload_n 0, 1) := by decide +kernel
theorem d_Ed_twice_83 : decode b_Ed_twice 83 = .ok (.getfield 52, 3) := by decide +kernel
theorem d_Ed_twice_86 : decode b_Ed_twice 86 = .ok (.invokestatic 127, 3) := by decide +kernel
theorem d_Ed_twice_89 : decode b_Ed_twice 89 = .ok (.aload_n 0, 1) := by decide +kernel
theorem d_Ed_twice_90 : decode b_Ed_twice 90 = .ok (.getfield 52, 3) := by decide +kernel
theorem d_Ed_twice_93 : decode b_Ed_twice 93 = .ok (.aload_n 0, 1) := by decide +kernel
theorem d_Ed_twice_94 : decode b_Ed_twice 94 = .ok (.getfield 61, 3) := by decide +kernel
theorem d_Ed_twice_97 : decode b_Ed_twice 97 = .ok (.aload_n 0, 1) := by decide +kernel
theorem d_Ed_twice_98 : decode b_Ed_twice 98 = .ok (.getfield 52, 3) := by decide +kernel
theorem d_Ed_twice_101 : decode b_Ed_twice 101 = .ok (.invokestatic 97, 3) := by decide +kernel
theorem d_Ed_twice_104 : decode b_Ed_twice 104 = .ok (.aload_n 0, 1) := by decide +kernel
theorem d_Ed_twice_105 : decode b_Ed_twice 105 = .ok (.getfield 58, 3) := by decide +kernel
theorem d_Ed_twice_108 : decode b_Ed_twice 108 = .ok (.aload_n 0, 1) := by decide +kernel
theorem d_Ed_twice_109 : decode b_Ed_twice 109 = .ok (.getfield 39, 3) := by decide +kernel
theorem d_Ed_twice_112 : decode b_Ed_twice 112 = .ok (.aload_n 0, 1) := by decide +kernel
theorem d_Ed_twice_113 : decode b_Ed_twice 113 = .ok (.getfield 43, 3) := by decide +kernel
theorem d_Ed_twice_116 : decode b_Ed_twice 116 = .ok (.invokestatic 97, 3) := by decide +kernel
theorem d_Ed_twice_119 : decode b_Ed_twice 119 = .ok (.aload_n 0, 1) := by decide +kernel
theorem d_Ed_twice_120 : decode b_Ed_twice 120 = .ok (.getfield 55, 3) := by decide +kernel
theorem d_Ed_twice_123 : decode b_Ed_twice 123 = .ok (.aload_n 0, 1) := by decide +kernel
theorem d_Ed_twice_124 : decode b_Ed_twice 124 = .ok (.getfield 46, 3) := by decide +kernel
theorem d_Ed_twice_127 : decode b_Ed_twice 127 = .ok (.aload_n 0, 1) := by decide +kernel
theorem d_Ed_twice_128 : decode b_Ed_twice 128 = .ok (.getfield 58, 3) := by decide +kernel
theorem d_Ed_twice_131 : decode b_Ed_twice 131 = .ok (.invokestatic 107, 3) := by decide +kernel
theorem d_Ed_twice_134 : decode b_Ed_twice 134 = .ok (.aload_n 0, 1) := by decide +kernel
theorem d_Ed_twice_135 : decode b_Ed_twice 135 = .ok (.aload_n 1, 1) := by decide +kernel
theorem d_Ed_twice_136 : decode b_Ed_twice 136 = .ok (.invokevirtual 124, 3) := by decide +kernel
theorem d_Ed_twice_139 : decode b_Ed_twice 139 = .ok (.return_, 1) := by decide +kernel
theorem d_Ed_fillMultiples_0 : decode b_Ed_fillMultiples 0 = .ok (.aload_n 1, 1) := by decide +kernel
theorem d_Ed_fillMultiples_1 : decode b_Ed_fillMultiples 1 = .ok (.iconst 1, 1) := by decide +kernel
theorem d_Ed_fillMultiples_2 : decode b_Ed_fillMultiples 2 = .ok (.aaload, 1) := by decide +kernel
theorem d_Ed_fillMultiples_3 : decode b_Ed_fillMultiples 3 = .ok (.aload_n 2, 1) := by decide +kernel
theorem d_Ed_fillMultiples_4 : decode b_Ed_fillMultiples 4 = .ok (.invokevirtual 83, 3) := by decide +kernel
theorem d_Ed_fillMultiples_7 : decode b_Ed_fillMultiples 7 = .ok (.iconst 2, 1) := by decide +kernel
theorem d_Ed_fillMultiples_8 : decode b_Ed_fillMultiples 8 = .ok (.istore_n 3, 1) := by decide +kernel
theorem d_Ed_fillMultiples_9 : decode b_Ed_fillMultiples 9 = .ok (.iload_n 3, 1) := by decide +kernel
theorem d_Ed_fillMultiples_10 : decode b_Ed_fillMultiples 10 = .ok (.bipush 16, 2) := by decide +kernel
theorem d_Ed_fillMultiples_12 : decode b_Ed_fillMultiples 12 = .ok (.if_icmp .ge 24, 3) := by decide +kernel
theorem d_Ed_fillMultiples_15 : decode b_Ed_fillMultiples 15 = .ok (.aload_n 0, 1) := by decide +kernel
theorem d_Ed_fillMultiples_16 : decode b_Ed_fillMultiples 16 = .ok (.aload_n 2, 1) := by decide +kernel
theorem d_Ed_fillMultiples_17 : decode b_Ed_fillMultiples 17 = .ok (.aload_n 1, 1) := by decide +kernel
theorem d_Ed_fillMultiples_18 : decode b_Ed_fillMultiples 18 = .ok (.iconst 1, 1) := by decide +kernel
theorem d_Ed_fillMultiples_19 : decode b_Ed_fillMultiples 19 = .ok (.aaload, 1) := by decide +kernel
theorem d_Ed_fillMultiples_20 : decode b_Ed_fillMultiples 20 = .ok (.invokevirtual 87, 3) := by decide +kernel
theorem d_Ed_fillMultiples_23 : decode b_Ed_fillMultiples 23 = .ok (.aload_n 1, 1) := by decide +kernel
theorem d_Ed_fillMultiples_24 : decode b_Ed_fillMultiples 24 = .ok (.iload_n 3, 1) := by decide +kernel
theorem d_Ed_fillMultiples_25 : decode b_Ed_fillMultiples 25 = .ok (.aaload, 1) := by decide +kernel
theorem d_Ed_fillMultiples_26 : decode b_Ed_fillMultiples 26 = .ok (.aload_n 2, 1) := by decide +kernel
theorem d_Ed_fillMultiples_27 : decode b_Ed_fillMultiples 27 = .ok (.invokevirtual 83, 3) := by decide +kernel
theorem d_Ed_fillMultiples_30 : decode b_Ed_fillMultiples 30 = .ok (.iinc 3 1, 3) := by decide +kernel
theorem d_Ed_fillMultiples_33 : decode b_Ed_fillMultiples 33 = .ok (.goto (-24), 3) := by decide +kernel
theorem d_Ed_fillMultiples_36 : decode b_Ed_fillMultiples 36 = .ok (.return_, 1) := by decide +kernel
theorem d_Ed_digitAt_0 : decode b_Ed_digitAt 0 = .ok (.aload_n 0, 1) := by decide +kernel
theorem d_Ed_digitAt_1 : decode b_Ed_digitAt 1 = .ok (.iload_n 1, 1) := by decide +kernel
theorem d_Ed_digitAt_2 : decode b_Ed_digitAt 2 = .ok (.iconst 1, 1) := by decide +kernel
theorem d_Ed_digitAt_3 : decode b_Ed_digitAt 3 = .ok (.ishr, 1) := by decide +kernel
theorem d_Ed_digitAt_4 : decode b_Ed_digitAt 4 = .ok (.baload, 1) := by decide +kernel
theorem d_Ed_digitAt_5 : decode b_Ed_digitAt 5 = .ok (.iconst 4, 1) := by decide +kernel
theorem d_Ed_digitAt_6 : decode b_Ed_digitAt 6 = .ok (.iload_n 1, 1) := by decide +kernel
theorem d_Ed_digitAt_7 : decode b_Ed_digitAt 7 = .ok (.iconst 1, 1) := by decide +kernel
theorem d_Ed_digitAt_8 : decode b_Ed_digitAt 8 = .ok (.iand, 1) := by decide +kernel
theorem d_Ed_digitAt_9 : decode b_Ed_digitAt 9 = .ok (.imul, 1) := by decide +kernel
theorem d_Ed_digitAt_10 : decode b_Ed_digitAt 10 = .ok (.ishr, 1) := by decide +kernel
theorem d_Ed_digitAt_11 : decode b_Ed_digitAt 11 = .ok (.bipush 15, 2) := by decide +kernel
theorem d_Ed_digitAt_13 : decode b_Ed_digitAt 13 = .ok (.iand, 1) := by decide +kernel
theorem d_Ed_digitAt_14 : decode b_Ed_digitAt 14 = .ok (.ireturn, 1) := by decide +kernel
