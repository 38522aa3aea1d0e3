theorem d_La_step_0 : decode b_La_step 0 = .ok (.aload_n 0, 1) := by decide +kernel
theorem d_La_step_1 : decode b_La_step 1 = .ok (.getfield 36, 3) := by decide +kernel
theorem d_La_step_4 : decode b_La_step 4 = .ok (.aload_n 1, 1) := by decide +kernel
theorem d_La_step_5 : decode b_La_step 5 = .ok (.aload_n 2, 1) := by decide +kernel
theorem d_La_step_6 : decode b_La_step 6 = .ok (.invokestatic 96, 3) := by decide +kernel
theorem d_La_step_9 : decode b_La_step 9 = .ok (.aload_n 0, 1) := by decide +kernel
theorem d_La_step_10 : decode b_La_step 10 = .ok (.getfield 39, 3) := by decide +kernel
theorem d_La_step_13 : decode b_La_step 13 = .ok (.aload_n 1, 1) := by decide +kernel
theorem d_La_step_14 : decode b_La_step 14 = .ok (.aload_n 2, 1) := by decide +kernel
theorem d_La_step_15 : decode b_La_step 15 = .ok (.invokestatic 99, 3) := by decide +kernel
theorem d_La_step_18 : decode b_La_step 18 = .ok (.aload_n 0, 1) := by decide +kernel
theorem d_La_step_19 : decode b_La_step 19 = .ok (.getfield 42, 3) := by decide +kernel
theorem d_La_step_22 : decode b_La_step 22 = .ok (.aload_n 3, 1) := by decide +kernel
theorem d_La_step_23 : decode b_La_step 23 = .ok (.aload 4, 2) := by decide +kernel
theorem d_La_step_25 : decode b_La_step 25 = .ok (.invokestatic 96, 3) := by decide +kernel
theorem d_La_step_28 : decode b_La_step 28 = .ok (.aload_n 0, 1) := by decide +kernel
theorem d_La_step_29 : decode b_La_step 29 = .ok (.getfield 45, 3) := by decide +kernel
theorem d_La_step_32 : decode b_La_step 32 = .ok (.aload_n 3, 1) := by decide +kernel
theorem d_La_step_33 : decode b_La_step 33 = .ok (.aload 4, 2) := by decide +kernel
theorem d_La_step_35 : decode b_La_step 35 = .ok (.invokestatic 99, 3) := by decide +kernel
theorem d_La_step_38 : decode b_La_step 38 = .ok (.aload_n 0, 1) := by decide +kernel
theorem d_La_step_39 : decode b_La_step 39 = .ok (.getfield 45, 3) := by decide +kernel
theorem d_La_step_42 : decode b_La_step 42 = .ok (.aload_n 0, 1) := by decide +kernel
theorem d_La_step_43 : decode b_La_step 43 = .ok (.getfield 45, 3) := by decide +kernel
theorem d_La_step_46 : decode b_La_step 46 = .ok (.aload_n 0, 1) := by decide +kernel
theorem d_La_step_47 : decode b_La_step 47 = .ok (.getfield 36, 3) := by decide +kernel
theorem d_La_step_50 : decode b_La_step 50 = .ok (.invokestatic 77, 3) := by decide +kernel
theorem d_La_step_53 : decode b_La_step 53 = .ok (.aload_n 0, 1) := by decide +kernel
theorem d_La_step_54 : decode b_La_step 54 = .ok (.getfield 42, 3) := by decide +kernel
theorem d_La_step_57 : decode b_La_step 57 = .ok (.aload_n 0, 1) := by decide +kernel
theorem d_La_step_58 : decode b_La_step 58 = .ok (.getfield 42, 3) := by decide +kernel
theorem d_La_step_61 : decode b_La_step 61 = .ok (.aload_n 0, 1) := by decide +kernel
theorem d_La_step_62 : decode b_La_step 62 = .ok (.getfield 39, 3) := by decide +kernel
theorem d_La_step_65 : decode b_La_step 65 = .ok (.invokestatic 77, 3) := by decide +kernel
theorem d_La_step_68 : decode b_La_step 68 = .ok (.aload_n 3, 1) := by decide +kernel
theorem d_La_step_69 : decode b_La_step 69 = .ok (.aload_n 0, 1) := by decide +kernel
theorem d_La_step_70 : decode b_La_step 70 = .ok (.getfield 45, 3) := by decide +kernel
theorem d_La_step_73 : decode b_La_step 73 = .ok (.aload_n 0, 1) := by decide +kernel
theorem d_La_step_74 : decode b_La_step 74 = .ok (.getfield 42, 3) := by decide +kernel
theorem d_La_step_77 : decode b_La_step 77 = .ok (.invokestatic 96, 3) := by decide +kernel
theorem d_La_step_80 : decode b_La_step 80 = .ok (.aload_n 3, 1) := by decide +kernel
theorem d_La_step_81 : decode b_La_step 81 = .ok (.aload_n 3, 1) := by decide +kernel
theorem d_La_step_82 : decode b_La_step 82 = .ok (.invokestatic 102, 3) := by decide +kernel
theorem d_La_step_85 : decode b_La_step 85 = .ok (.aload 4, 2) := by decide +kernel
theorem d_La_step_87 : decode b_La_step 87 = .ok (.aload_n 0, 1) := by decide +kernel
theorem d_La_step_88 : decode b_La_step 88 = .ok (.getfield 45, 3) := by decide +kernel
theorem d_La_step_91 : decode b_La_step 91 = .ok (.aload_n 0, 1) := by decide +kernel
theorem d_La_step_92 : decode b_La_step 92 = .ok (.getfield 42, 3) := by decide +kernel
theorem d_La_step_95 : decode b_La_step 95 = .ok (.invokestatic 99, 3) := by decide +kernel
theorem d_La_step_98 : decode b_La_step 98 = .ok (.aload 4, 2) := by decide +kernel
theorem d_La_step_100 : decode b_La_step 100 = .ok (.aload 4, 2) := by decide +kernel
theorem d_La_step_102 : decode b_La_step 102 = .ok (.invokestatic 102, 3) := by decide +kernel
theorem d_La_step_105 : decode b_La_step 105 = .ok (.aload 4, 2) := by decide +kernel
theorem d_La_step_107 : decode b_La_step 107 = .ok (.aload 4, 2) := by decide +kernel
theorem d_La_step_109 : decode b_La_step 109 = .ok (.aload_n 0, 1) := by decide +kernel
theorem d_La_step_110 : decode b_La_step 110 = .ok (.getfield 20, 3) := by decide +kernel
theorem d_La_step_113 : decode b_La_step 113 = .ok (.invokestatic 77, 3) := by decide +kernel
theorem d_La_step_116 : decode b_La_step 116 = .ok (.aload_n 0, 1) := by decide +kernel
theorem d_La_step_117 : decode b_La_step 117 = .ok (.getfield 36, 3) := by decide +kernel
theorem d_La_step_120 : decode b_La_step 120 = .ok (.aload_n 0, 1) := by decide +kernel
theorem d_La_step_121 : decode b_La_step 121 = .ok (.getfield 36, 3) := by decide +kernel
theorem d_La_step_124 : decode b_La_step 124 = .ok (.invokestatic 102, 3) := by decide +kernel
theorem d_La_step_127 : decode b_La_step 127 = .ok (.aload_n 0, 1) := by decide +kernel
theorem d_La_step_128 : decode b_La_step 128 = .ok (.getfield 39, 3) := by decide +kernel
theorem d_La_step_131 : decode b_La_step 131 = .ok (.aload_n 0, 1) := by decide +kernel
theorem d_La_step_132 : decode b_La_step 132 = .ok (.getfield 39, 3) := by decide +kernel
theorem d_La_step_135 : decode b_La_step 135 = .ok (.invokestatic 102, 3) := by decide +kernel
theorem d_La_step_138 : decode b_La_step 138 = .ok (.aload_n 1, 1) := by decide +kernel
theorem d_La_step_139 : decode b_La_step 139 = .ok (.aload_n 0, 1) := by decide +kernel
theorem d_La_step_140 : decode b_La_step 140 = .ok (.getfield 36, 3) := by decide +kernel
theorem d_La_step_143 : decode b_La_step 143 = .ok (.aload_n 0, 1) := by decide +kernel
theorem d_La_step_144 : decode b_La_step 144 = .ok (.getfield 39, 3) := by decide +kernel
theorem d_La_step_147 : decode b_La_step 147 = .ok (.invokestatic 77, 3) := by decide +kernel
theorem d_La_step_150 : decode b_La_step 150 = .ok (.aload_n 0, 1) := by decide +kernel
theorem d_La_step_151 : decode b_La_step 151 = .ok (.getfield 39, 3) := by decide +kernel
theorem d_La_step_154 : decode b_La_step 154 = .ok (.aload_n 0, 1) := by decide +kernel
theorem d_La_step_155 : decode b_La_step 155 = .ok (.getfield 36, 3) := by decide +kernel
theorem d_La_step_158 : decode b_La_step 158 = .ok (.aload_n 0, 1) := by decide +kernel
theorem d_La_step_159 : decode b_La_step 159 = .ok (.getfield 39, 3) := by decide +kernel
theorem d_La_step_162 : decode b_La_step 162 = .ok (.invokestatic 99, 3) := by decide +kernel
theorem d_La_step_165 : decode b_La_step 165 = .ok (.aload_n 2, 1) := by decide +kernel
theorem d_La_step_166 : decode b_La_step 166 = .ok (.aload_n 0, 1) := by decide +kernel
theorem d_La_step_167 : decode b_La_step 167 = .ok (.getfield 39, 3) := by decide +kernel
theorem d_La_step_170 : decode b_La_step 170 = .ok (.ldc2_w 105, 3) := by decide +kernel
theorem d_La_step_173 : decode b_La_step 173 = .ok (.invokestatic 107, 3) := by decide +kernel
theorem d_La_step_176 : decode b_La_step 176 = .ok (.aload_n 2, 1) := by decide +kernel
theorem d_La_step_177 : decode b_La_step 177 = .ok (.aload_n 2, 1) := by decide +kernel
theorem d_La_step_178 : decode b_La_step 178 = .ok (.aload_n 0, 1) := by decide +kernel
theorem d_La_step_179 : decode b_La_step 179 = .ok (.getfield 36, 3) := by decide +kernel
theorem d_La_step_182 : decode b_La_step 182 = .ok (.invokestatic 96, 3) := by decide +kernel
theorem d_La_step_185 : decode b_La_step 185 = .ok (.aload_n 2, 1) := by decide +kernel
theorem d_La_step_186 : decode b_La_step 186 = .ok (.aload_n 2, 1) := by decide +kernel
theorem d_La_step_187 : decode b_La_step 187 = .ok (.aload_n 0, 1) := by decide +kernel
theorem d_La_step_188 : decode b_La_step 188 = .ok (.getfield 39, 3) := by decide +kernel
theorem d_La_step_191 : decode b_La_step 191 = .ok (.invokestatic 77, 3) := by decide +kernel
theorem d_La_step_194 : decode b_La_step 194 = .ok (.return_, 1) := by decide +kernel
theorem d_La_climb_0 : decode b_La_climb 0 = .ok (.aload_n 0, 1) := by decide +kernel
theorem d_La_climb_1 : decode b_La_climb 1 = .ok (.getfield 24, 3) := by decide +kernel
theorem d_La_climb_4 : decode b_La_climb 4 = .ok (.lconst 1, 1) := by decide +kernel
theorem d_La_climb_5 : decode b_La_climb 5 = .ok (.invokestatic 85, 3) := by decide +kernel
theorem d_La_climb_8 : decode b_La_climb 8 = .ok (.aload_n 0, 1) := by decide +kernel
theorem d_La_climb_9 : decode b_La_climb 9 = .ok (.getfield 27, 3) := by decide +kernel
theorem d_La_climb_12 : decode b_La_climb 12 = .ok (.lconst 0, 1) := by decide +kernel
theorem d_La_climb_13 : decode b_La_climb 13 = .ok (.invokestatic 85, 3) := by decide +kernel
theorem d_La_climb_16 : decode b_La_climb 16 = .ok (.aload_n 0, 1) := by decide +kernel
theorem d_La_climb_17 : decode b_La_climb 17 = .ok (.getfield 30, 3) := by decide +kernel
theorem d_La_climb_20 : decode b_La_climb 20 = .ok (.aload_n 0, 1) := by decide +kernel
theorem d_La_climb_21 : decode b_La_climb 21 = .ok (.getfield 20, 3) := by decide +kernel
theorem d_La_climb_24 : decode b_La_climb 24 = .ok (.invokestatic 89, 3) := by decide +kernel
theorem d_La_climb_27 : decode b_La_climb 27 = .ok (.aload_n 0, 1) := by decide +kernel
theorem d_La_climb_28 : decode b_La_climb 28 = .ok (.getfield 33, 3) := by decide +kernel
theorem d_La_climb_31 : decode b_La_climb 31 = .ok (.lconst 1, 1) := by decide +kernel
theorem d_La_climb_32 : decode b_La_climb 32 = .ok (.invokestatic 85, 3) := by decide +kernel
theorem d_La_climb_35 : decode b_La_climb 35 = .ok (.sipush 254, 3) := by decide +kernel
theorem d_La_climb_38 : decode b_La_climb 38 = .ok (.istore_n 1, 1) := by decide +kernel
theorem d_La_climb_39 : decode b_La_climb 39 = .ok (.iload_n 1, 1) := by decide +kernel
theorem d_La_climb_40 : decode b_La_climb 40 = .ok (.ifCond .lt 70, 3) := by decide +kernel
theorem d_La_climb_43 : decode b_La_climb 43 = .ok (.aload_n 0, 1) := by decide +kernel
theorem d_La_climb_44 : decode b_La_climb 44 = .ok (.getfield 9, 3) := by decide +kernel
theorem d_La_climb_47 : decode b_La_climb 47 = .ok (.iload_n 1, 1) := by decide +kernel
theorem d_La_climb_48 : decode b_La_climb 48 = .ok (.iconst 3, 1) := by decide +kernel
theorem d_La_climb_49 : decode b_La_climb 49 = .ok (.ishr, 1) := by decide +kernel
theorem d_La_climb_50 : decode b_La_climb 50 = .ok (.baload, 1) := by decide +kernel
theorem d_La_climb_51 : decode b_La_climb 51 = .ok (.iload_n 1, 1) := by decide +kernel
theorem d_La_climb_52 : decode b_La_climb 52 = .ok (.bipush 7, 2) := by decide +kernel
theorem d_La_climb_54 : decode b_La_climb 54 = .ok (.iand, 1) := by decide +kernel
theorem d_La_climb_55 : decode b_La_climb 55 = .ok (.ishr, 1) := by decide +kernel
theorem d_La_climb_56 : decode b_La_climb 56 = .ok (.iconst 1, 1) := by decide +kernel
theorem d_La_climb_57 : decode b_La_climb 57 = .ok (.iand, 1) := by decide +kernel
theorem d_La_climb_58 : decode b_La_climb 58 = .ok (.ifCond .ne 26, 3) := by decide +kernel
theorem d_La_climb_61 : decode b_La_climb 61 = .ok (.aload_n 0, 1) := by decide +kernel
theorem d_La_climb_62 : decode b_La_climb 62 = .ok (.aload_n 0, 1) := by decide +kernel
theorem d_La_climb_63 : decode b_La_climb 63 = .ok (.getfield 24, 3) := by decide +kernel
theorem d_La_climb_66 : decode b_La_climb 66 = .ok (.aload_n 0, 1) := by decide +kernel
theorem d_La_climb_67 : decode b_La_climb 67 = .ok (.getfield 27, 3) := by decide +kernel
theorem d_La_climb_70 : decode b_La_climb 70 = .ok (.aload_n 0, 1) := by decide +kernel
theorem d_La_climb_71 : decode b_La_climb 71 = .ok (.getfield 30, 3) := by decide +kernel
theorem d_La_climb_74 : decode b_La_climb 74 = .ok (.aload_n 0, 1) := by decide +kernel
theorem d_La_climb_75 : decode b_La_climb 75 = .ok (.getfield 33, 3) := by decide +kernel
theorem d_La_climb_78 : decode b_La_climb 78 = .ok (.invokevirtual 92, 3) := by decide +kernel
theorem d_La_climb_81 : decode b_La_climb 81 = .ok (.goto 23, 3) := by decide +kernel
theorem d_La_climb_84 : decode b_La_climb 84 = .ok (.aload_n 0, 1) := by decide +kernel
theorem d_La_climb_85 : decode b_La_climb 85 = .ok (.aload_n 0, 1) := by decide +kernel
theorem d_La_climb_86 : decode b_La_climb 86 = .ok (.getfield 30, 3) := by decide +kernel
theorem d_La_climb_89 : decode b_La_climb 89 = .ok (.aload_n 0, 1) := by decide +kernel
theorem d_La_climb_90 : decode b_La_climb 90 = .ok (.getfield 33, 3) := by decide +kernel
theorem d_La_climb_93 : decode b_La_climb 93 = .ok (.aload_n 0, 1) := by decide +kernel
theorem d_La_climb_94 : decode b_La_climb 94 = .ok (.getfield 24, 3) := by decide +kernel
theorem d_La_climb_97 : decode b_La_climb 97 = .ok (.aload_n 0, 1) := by decide +kernel
theorem d_La_climb_98 : decode b_La_climb 98 = .ok (.getfield 27, 3) := by decide +kernel
theorem d_La_climb_101 : decode b_La_climb 101 = .ok (.invokevirtual 92, 3) := by decide +kernel
theorem d_La_climb_104 : decode b_La_climb 104 = .ok (.iinc 1 (-1), 3) := by decide +kernel
theorem d_La_climb_107 : decode b_La_climb 107 = .ok (.goto (-68), 3) := by decide +kernel
theorem d_La_climb_110 : decode b_La_climb 110 = .ok (.return_, 1) := by decide +kernel
theorem d_La_writeProduct_0 : decode b_La_writeProduct 0 = .ok (.aload_n 2, 1) := by decide +kernel
theorem d_La_writeProduct_1 : decode b_La_writeProduct 1 = .ok (.iconst 0, 1) := by decide +kernel
theorem d_La_writeProduct_2 : decode b_La_writeProduct 2 = .ok (.aload_n 0, 1) := by decide +kernel
theorem d_La_writeProduct_3 : decode b_La_writeProduct 3 = .ok (.getfield 9, 3) := by decide +kernel
theorem d_La_writeProduct_6 : decode b_La_writeProduct 6 = .ok (.iconst 0, 1) := by decide +kernel
theorem d_La_writeProduct_7 : decode b_La_writeProduct 7 = .ok (.bipush 32, 2) := by decide +kernel
theorem d_La_writeProduct_9 : decode b_La_writeProduct 9 = .ok (.invokestatic 56, 3) := by decide +kernel
theorem d_La_writeProduct_12 : decode b_La_writeProduct 12 = .ok (.aload_n 0, 1) := by decide +kernel
theorem d_La_writeProduct_13 : decode b_La_writeProduct 13 = .ok (.getfield 9, 3) := by decide +kernel
theorem d_La_writeProduct_16 : decode b_La_writeProduct 16 = .ok (.invokestatic 62, 3) := by decide +kernel
theorem d_La_writeProduct_19 : decode b_La_writeProduct 19 = .ok (.aload_n 0, 1) := by decide +kernel
theorem d_La_writeProduct_20 : decode b_La_writeProduct 20 = .ok (.getfield 20, 3) := by decide +kernel
theorem d_La_writeProduct_23 : decode b_La_writeProduct 23 = .ok (.aload_n 3, 1) := by decide +kernel
theorem d_La_writeProduct_24 : decode b_La_writeProduct 24 = .ok (.invokestatic 66, 3) := by decide +kernel
theorem d_La_writeProduct_27 : decode b_La_writeProduct 27 = .ok (.aload_n 0, 1) := by decide +kernel
theorem d_La_writeProduct_28 : decode b_La_writeProduct 28 = .ok (.invokevirtual 70, 3) := by decide +kernel
theorem d_La_writeProduct_31 : decode b_La_writeProduct 31 = .ok (.aload_n 0, 1) := by decide +kernel
theorem d_La_writeProduct_32 : decode b_La_writeProduct 32 = .ok (.getfield 48, 3) := by decide +kernel
theorem d_La_writeProduct_35 : decode b_La_writeProduct 35 = .ok (.aload_n 0, 1) := by decide +kernel
theorem d_La_writeProduct_36 : decode b_La_writeProduct 36 = .ok (.getfield 27, 3) := by decide +kernel
theorem d_La_writeProduct_39 : decode b_La_writeProduct 39 = .ok (.aload_n 0, 1) := by decide +kernel
theorem d_La_writeProduct_40 : decode b_La_writeProduct 40 = .ok (.getfield 27, 3) := by decide +kernel
theorem d_La_writeProduct_43 : decode b_La_writeProduct 43 = .ok (.invokevirtual 73, 3) := by decide +kernel
theorem d_La_writeProduct_46 : decode b_La_writeProduct 46 = .ok (.aload_n 0, 1) := by decide +kernel
theorem d_La_writeProduct_47 : decode b_La_writeProduct 47 = .ok (.getfield 24, 3) := by decide +kernel
theorem d_La_writeProduct_50 : decode b_La_writeProduct 50 = .ok (.aload_n 0, 1) := by decide +kernel
theorem d_La_writeProduct_51 : decode b_La_writeProduct 51 = .ok (.getfield 24, 3) := by decide +kernel
theorem d_La_writeProduct_54 : decode b_La_writeProduct 54 = .ok (.aload_n 0, 1) := by decide +kernel
theorem d_La_writeProduct_55 : decode b_La_writeProduct 55 = .ok (.getfield 27, 3) := by decide +kernel
theorem d_La_writeProduct_58 : decode b_La_writeProduct 58 = .ok (.invokestatic 77, 3) := by decide +kernel
theorem d_La_writeProduct_61 : decode b_La_writeProduct 61 = .ok (.aload_n 0, 1) := by decide +kernel
theorem d_La_writeProduct_62 : decode b_La_writeProduct 62 = .ok (.getfield 48, 3) := by decide +kernel
theorem d_La_writeProduct_65 : decode b_La_writeProduct 65 = .ok (.aload_n 1, 1) := by decide +kernel
theorem d_La_writeProduct_66 : decode b_La_writeProduct 66 = .ok (.aload_n 0, 1) := by decide +kernel
theorem d_La_writeProduct_67 : decode b_La_writeProduct 67 = .ok (.getfield 24, 3) := by decide +kernel
theorem d_La_writeProduct_70 : decode b_La_writeProduct 70 = .ok (.invokevirtual 81, 3) := by decide +kernel
theorem d_La_writeProduct_73 : decode b_La_writeProduct 73 = .ok (.return_, 1) := by decide +kernel
theorem d_La_writePublicKey_0 : decode b_La_writePublicKey 0 = .ok (.aload_n 0, 1) := by decide +kernel
theorem d_La_writePublicKey_1 : decode b_La_writePublicKey 1 = .ok (.aload_n 1, 1) := by decide +kernel
theorem d_La_writePublicKey_2 : decode b_La_writePublicKey 2 = .ok (.aload_n 2, 1) := by decide +kernel
theorem d_La_writePublicKey_3 : decode b_La_writePublicKey 3 = .ok (.aload_n 0, 1) := by decide +kernel
theorem d_La_writePublicKey_4 : decode b_La_writePublicKey 4 = .ok (.getfield 15, 3) := by decide +kernel
theorem d_La_writePublicKey_7 : decode b_La_writePublicKey 7 = .ok (.invokevirtual 52, 3) := by decide +kernel
theorem d_La_writePublicKey_10 : decode b_La_writePublicKey 10 = .ok (.return_, 1) := by decide +kernel
theorem d_Or_isBelow_0 : decode b_Or_isBelow 0 = .ok (.bipush 31, 2) := by decide +kernel
theorem d_Or_isBelow_2 : decode b_Or_isBelow 2 = .ok (.istore_n 1, 1) := by decide +kernel
theorem d_Or_isBelow_3 : decode b_Or_isBelow 3 = .ok (.iload_n 1, 1) := by decide +kernel
theorem d_Or_isBelow_4 : decode b_Or_isBelow 4 = .ok (.ifCond .lt 42, 3) := by decide +kernel
theorem d_Or_isBelow_7 : decode b_Or_isBelow 7 = .ok (.aload_n 0, 1) := by decide +kernel
theorem d_Or_isBelow_8 : decode b_Or_isBelow 8 = .ok (.iload_n 1, 1) := by decide +kernel
theorem d_Or_isBelow_9 : decode b_Or_isBelow 9 = .ok (.baload, 1) := by decide +kernel
theorem d_Or_isBelow_10 : decode b_Or_isBelow 10 = .ok (.sipush 255, 3) := by decide +kernel
theorem d_Or_isBelow_13 : decode b_Or_isBelow 13 = .ok (.iand, 1) := by decide +kernel
theorem d_Or_isBelow_14 : decode b_Or_isBelow 14 = .ok (.i2l, 1) := by decide +kernel
theorem d_Or_isBelow_15 : decode b_Or_isBelow 15 = .ok (.getstatic 15, 3) := by decide +kernel
theorem d_Or_isBelow_18 : decode b_Or_isBelow 18 = .ok (.iload_n 1, 1) := by decide +kernel
theorem d_Or_isBelow_19 : decode b_Or_isBelow 19 = .ok (.laload, 1) := by decide +kernel
theorem d_Or_isBelow_20 : decode b_Or_isBelow 20 = .ok (.lsub, 1) := by decide +kernel
theorem d_Or_isBelow_21 : decode b_Or_isBelow 21 = .ok (.lstore_n 2, 1) := by decide +kernel
theorem d_Or_isBelow_22 : decode b_Or_isBelow 22 = .ok (.lload_n 2, 1) := by decide +kernel
theorem d_Or_isBelow_23 : decode b_Or_isBelow 23 = .ok (.lconst 0, 1) := by decide +kernel
theorem d_Or_isBelow_24 : decode b_Or_isBelow 24 = .ok (.lcmp, 1) := by decide +kernel
theorem d_Or_isBelow_25 : decode b_Or_isBelow 25 = .ok (.ifCond .eq 15, 3) := by decide +kernel
theorem d_Or_isBelow_28 : decode b_Or_isBelow 28 = .ok (.lload_n 2, 1) := by decide +kernel
theorem d_Or_isBelow_29 : decode b_Or_isBelow 29 = .ok (.lconst 0, 1) := by decide +kernel
theorem d_Or_isBelow_30 : decode b_Or_isBelow 30 = .ok (.lcmp, 1) := by decide +kernel
theorem d_Or_isBelow_31 : decode b_Or_isBelow 31 = .ok (.ifCond .ge 7, 3) := by decide +kernel
theorem d_Or_isBelow_34 : decode b_Or_isBelow 34 = .ok (.iconst 1, 1) := by decide +kernel
theorem d_Or_isBelow_35 : decode b_Or_isBelow 35 = .ok (.goto 4, 3) := by decide +kernel
theorem d_Or_isBelow_38 : decode b_Or_isBelow 38 = .ok (.iconst 0, 1) := by decide +kernel
theorem d_Or_isBelow_39 : decode b_Or_isBelow 39 = .ok (.ireturn, 1) := by decide +kernel
theorem d_Or_isBelow_40 : decode b_Or_isBelow 40 = .ok (.iinc 1 (-1), 3) := by decide +kernel
theorem d_Or_isBelow_43 : decode b_Or_isBelow 43 = .ok (.goto (-40), 3) := by decide +kernel
theorem d_Or_isBelow_46 : decode b_Or_isBelow 46 = .ok (.iconst 0, 1) := by decide +kernel
theorem d_Or_isBelow_47 : decode b_Or_isBelow 47 = .ok (.ireturn, 1) := by decide +kernel
theorem d_Or_foldPlace_0 : decode b_Or_foldPlace 0 = .ok (.ldc2_w 42, 3) := by decide +kernel
theorem d_Or_foldPlace_3 : decode b_Or_foldPlace 3 = .ok (.aload_n 0, 1) := by decide +kernel
theorem d_Or_foldPlace_4 : decode b_Or_foldPlace 4 = .ok (.getfield 11, 3) := by decide +kernel
theorem d_Or_foldPlace_7 : decode b_Or_foldPlace 7 = .ok (.iload_n 1, 1) := by decide +kernel
theorem d_Or_foldPlace_8 : decode b_Or_foldPlace 8 = .ok (.laload, 1) := by decide +kernel
theorem d_Or_foldPlace_9 : decode b_Or_foldPlace 9 = .ok (.lmul, 1) := by decide +kernel
theorem d_Or_foldPlace_10 : decode b_Or_foldPlace 10 = .ok (.lstore_n 2, 1) := by decide +kernel
theorem d_Or_foldPlace_11 : decode b_Or_foldPlace 11 = .ok (.lconst 0, 1) := by decide +kernel
theorem d_Or_foldPlace_12 : decode b_Or_foldPlace 12 = .ok (.lstore 4, 2) := by decide +kernel
theorem d_Or_foldPlace_14 : decode b_Or_foldPlace 14 = .ok (.iload_n 1, 1) := by decide +kernel
theorem d_Or_foldPlace_15 : decode b_Or_foldPlace 15 = .ok (.bipush 32, 2) := by decide +kernel
theorem d_Or_foldPlace_17 : decode b_Or_foldPlace 17 = .ok (.isub, 1) := by decide +kernel
theorem d_Or_foldPlace_18 : decode b_Or_foldPlace 18 = .ok (.istore 6, 2) := by decide +kernel
theorem d_Or_foldPlace_20 : decode b_Or_foldPlace 20 = .ok (.iconst 0, 1) := by decide +kernel
theorem d_Or_foldPlace_21 : decode b_Or_foldPlace 21 = .ok (.istore 7, 2) := by decide +kernel
theorem d_Or_foldPlace_23 : decode b_Or_foldPlace 23 = .ok (.iload 7, 2) := by decide +kernel
theorem d_Or_foldPlace_25 : decode b_Or_foldPlace 25 = .ok (.bipush 20, 2) := by decide +kernel
theorem d_Or_foldPlace_27 : decode b_Or_foldPlace 27 = .ok (.if_icmp .ge 62, 3) := by decide +kernel
theorem d_Or_foldPlace_30 : decode b_Or_foldPlace 30 = .ok (.aload_n 0, 1) := by decide +kernel
theorem d_Or_foldPlace_31 : decode b_Or_foldPlace 31 = .ok (.getfield 11, 3) := by decide +kernel
theorem d_Or_foldPlace_34 : decode b_Or_foldPlace 34 = .ok (.iload 6, 2) := by decide +kernel
theorem d_Or_foldPlace_36 : decode b_Or_foldPlace 36 = .ok (.iload 7, 2) := by decide +kernel
theorem d_Or_foldPlace_38 : decode b_Or_foldPlace 38 = .ok (.iadd, 1) := by decide +kernel
theorem d_Or_foldPlace_39 : decode b_Or_foldPlace 39 = .ok (.laload, 1) := by decide +kernel
theorem d_Or_foldPlace_40 : decode b_Or_foldPlace 40 = .ok (.lload 4, 2) := by decide +kernel
theorem d_Or_foldPlace_42 : decode b_Or_foldPlace 42 = .ok (.ladd, 1) := by decide +kernel
theorem d_Or_foldPlace_43 : decode b_Or_foldPlace 43 = .ok (.lload_n 2, 1) := by decide +kernel
theorem d_Or_foldPlace_44 : decode b_Or_foldPlace 44 = .ok (.getstatic 15, 3) := by decide +kernel
theorem d_Or_foldPlace_47 : decode b_Or_foldPlace 47 = .ok (.iload 7, 2) := by decide +kernel
theorem d_Or_foldPlace_49 : decode b_Or_foldPlace 49 = .ok (.laload, 1) := by decide +kernel
theorem d_Or_foldPlace_50 : decode b_Or_foldPlace 50 = .ok (.lmul, 1) := by decide +kernel
theorem d_Or_foldPlace_51 : decode b_Or_foldPlace 51 = .ok (.lsub, 1) := by decide +kernel
theorem d_Or_foldPlace_52 : decode b_Or_foldPlace 52 = .ok (.lstore 8, 2) := by decide +kernel
theorem d_Or_foldPlace_54 : decode b_Or_foldPlace 54 = .ok (.lload 8, 2) := by decide +kernel
theorem d_Or_foldPlace_56 : decode b_Or_foldPlace 56 = .ok (.ldc2_w 44, 3) := by decide +kernel
theorem d_Or_foldPlace_59 : decode b_Or_foldPlace 59 = .ok (.ladd, 1) := by decide +kernel
theorem d_Or_foldPlace_60 : decode b_Or_foldPlace 60 = .ok (.bipush 8, 2) := by decide +kernel
theorem d_Or_foldPlace_62 : decode b_Or_foldPlace 62 = .ok (.lshr, 1) := by decide +kernel
theorem d_Or_foldPlace_63 : decode b_Or_foldPlace 63 = .ok (.lstore 4, 2) := by decide +kernel
theorem d_Or_foldPlace_65 : decode b_Or_foldPlace 65 = .ok (.aload_n 0, 1) := by decide +kernel
theorem d_Or_foldPlace_66 : decode b_Or_foldPlace 66 = .ok (.getfield 11, 3) := by decide +kernel
theorem d_Or_foldPlace_69 : decode b_Or_foldPlace 69 = .ok (.iload 6, 2) := by decide +kernel
theorem d_Or_foldPlace_71 : decode b_Or_foldPlace 71 = .ok (.iload 7, 2) := by decide +kernel
theorem d_Or_foldPlace_73 : decode b_Or_foldPlace 73 = .ok (.iadd, 1) := by decide +kernel
theorem d_Or_foldPlace_74 : decode b_Or_foldPlace 74 = .ok (.lload 8, 2) := by decide +kernel
theorem d_Or_foldPlace_76 : decode b_Or_foldPlace 76 = .ok (.lload 4, 2) := by decide +kernel
theorem d_Or_foldPlace_78 : decode b_Or_foldPlace 78 = .ok (.bipush 8, 2) := by decide +kernel
theorem d_Or_foldPlace_80 : decode b_Or_foldPlace 80 = .ok (.lshl, 1) := by decide +kernel
theorem d_Or_foldPlace_81 : decode b_Or_foldPlace 81 = .ok (.lsub, 1) := by decide +kernel
theorem d_Or_foldPlace_82 : decode b_Or_foldPlace 82 = .ok (.lastore, 1) := by decide +kernel
theorem d_Or_foldPlace_83 : decode b_Or_foldPlace 83 = .ok (.iinc 7 1, 3) := by decide +kernel
theorem d_Or_foldPlace_86 : decode b_Or_foldPlace 86 = .ok (.goto (-63), 3) := by decide +kernel
theorem d_Or_foldPlace_89 : decode b_Or_foldPlace 89 = .ok (.aload_n 0, 1) := by decide +kernel
theorem d_Or_foldPlace_90 : decode b_Or_foldPlace 90 = .ok (.getfield 11, 3) := by decide +kernel
theorem d_Or_foldPlace_93 : decode b_Or_foldPlace 93 = .ok (.iload 6, 2) := by decide +kernel
theorem d_Or_foldPlace_95 : decode b_Or_foldPlace 95 = .ok (.bipush 20, 2) := by decide +kernel
theorem d_Or_foldPlace_97 : decode b_Or_foldPlace 97 = .ok (.iadd, 1) := by decide +kernel
theorem d_Or_foldPlace_98 : decode b_Or_foldPlace 98 = .ok (.dup2, 1) := by decide +kernel
theorem d_Or_foldPlace_99 : decode b_Or_foldPlace 99 = .ok (.laload, 1) := by decide +kernel
theorem d_Or_foldPlace_100 : decode b_Or_foldPlace 100 = .ok (.lload 4, 2) := by decide +kernel
theorem d_Or_foldPlace_102 : decode b_Or_foldPlace 102 = .ok (.ladd, 1) := by decide +kernel
theorem d_Or_foldPlace_103 : decode b_Or_foldPlace 103 = .ok (.lastore, 1) := by decide +kernel
theorem d_Or_foldPlace_104 : decode b_Or_foldPlace 104 = .ok (.aload_n 0, 1) := by decide +kernel
theorem d_Or_foldPlace_105 : decode b_Or_foldPlace 105 = .ok (.getfield 11, 3) := by decide +kernel
theorem d_Or_foldPlace_108 : decode b_Or_foldPlace 108 = .ok (.iload_n 1, 1) := by decide +kernel
theorem d_Or_foldPlace_109 : decode b_Or_foldPlace 109 = .ok (.lconst 0, 1) := by decide +kernel
theorem d_Or_foldPlace_110 : decode b_Or_foldPlace 110 = .ok (.lastore, 1) := by decide +kernel
theorem d_Or_foldPlace_111 : decode b_Or_foldPlace 111 = .ok (.return_, 1) := by decide +kernel
theorem d_Or_subtractMultiple_0 : decode b_Or_subtractMultiple 0 = .ok (.bipush 31, 2) := by decide +kernel
theorem d_Or_subtractMultiple_2 : decode b_Or_subtractMultiple 2 = .ok (.istore_n 3, 1) := by decide +kernel
theorem d_Or_subtractMultiple_3 : decode b_Or_subtractMultiple 3 = .ok (.lconst 0, 1) := by decide +kernel
theorem d_Or_subtractMultiple_4 : decode b_Or_subtractMultiple 4 = .ok (.lstore 4, 2) := by decide +kernel
theorem d_Or_subtractMultiple_6 : decode b_Or_subtractMultiple 6 = .ok (.iconst 0, 1) := by decide +kernel
theorem d_Or_subtractMultiple_7 : decode b_Or_subtractMultiple 7 = .ok (.istore 6, 2) := by decide +kernel
theorem d_Or_subtractMultiple_9 : decode b_Or_subtractMultiple 9 = .ok (.iload 6, 2) := by decide +kernel
theorem d_Or_subtractMultiple_11 : decode b_Or_subtractMultiple 11 = .ok (.iload_n 3, 1) := by decide +kernel
theorem d_Or_subtractMultiple_12 : decode b_Or_subtractMultiple 12 = .ok (.if_icmp .ge 50, 3) := by decide +kernel
theorem d_Or_subtractMultiple_15 : decode b_Or_subtractMultiple 15 = .ok (.aload_n 0, 1) := by decide +kernel
theorem d_Or_subtractMultiple_16 : decode b_Or_subtractMultiple 16 = .ok (.getfield 11, 3) := by decide +kernel
theorem d_Or_subtractMultiple_19 : decode b_Or_subtractMultiple 19 = .ok (.iload 6, 2) := by decide +kernel
theorem d_Or_subtractMultiple_21 : decode b_Or_subtractMultiple 21 = .ok (.laload, 1) := by decide +kernel
theorem d_Or_subtractMultiple_22 : decode b_Or_subtractMultiple 22 = .ok (.lload 4, 2) := by decide +kernel
theorem d_Or_subtractMultiple_24 : decode b_Or_subtractMultiple 24 = .ok (.ladd, 1) := by decide +kernel
theorem d_Or_subtractMultiple_25 : decode b_Or_subtractMultiple 25 = .ok (.lload_n 1, 1) := by decide +kernel
theorem d_Or_subtractMultiple_26 : decode b_Or_subtractMultiple 26 = .ok (.getstatic 15, 3) := by decide +kernel
theorem d_Or_subtractMultiple_29 : decode b_Or_subtractMultiple 29 = .ok (.iload 6, 2) := by decide +kernel
theorem d_Or_subtractMultiple_31 : decode b_Or_subtractMultiple 31 = .ok (.laload, 1) := by decide +kernel
theorem d_Or_subtractMultiple_32 : decode b_Or_subtractMultiple 32 = .ok (.lmul, 1) := by decide +kernel
theorem d_Or_subtractMultiple_33 : decode b_Or_subtractMultiple 33 = .ok (.lsub, 1) := by decide +kernel
theorem d_Or_subtractMultiple_34 : decode b_Or_subtractMultiple 34 = .ok (.lstore 7, 2) := by decide +kernel
theorem d_Or_subtractMultiple_36 : decode b_Or_subtractMultiple 36 = .ok (.lload 7, 2) := by decide +kernel
theorem d_Or_subtractMultiple_38 : decode b_Or_subtractMultiple 38 = .ok (.bipush 8, 2) := by decide +kernel
theorem d_Or_subtractMultiple_40 : decode b_Or_subtractMultiple 40 = .ok (.lshr, 1) := by decide +kernel
theorem d_Or_subtractMultiple_41 : decode b_Or_subtractMultiple 41 = .ok (.lstore 4, 2) := by decide +kernel
theorem d_Or_subtractMultiple_43 : decode b_Or_subtractMultiple 43 = .ok (.aload_n 0, 1) := by decide +kernel
theorem d_Or_subtractMultiple_44 : decode b_Or_subtractMultiple 44 = .ok (.getfield 11, 3) := by decide +kernel
theorem d_Or_subtractMultiple_47 : decode b_Or_subtractMultiple 47 = .ok (.iload 6, 2) := by decide +kernel
theorem d_Or_subtractMultiple_49 : decode b_Or_subtractMultiple 49 = .ok (.lload 7, 2) := by decide +kernel
theorem d_Or_subtractMultiple_51 : decode b_Or_subtractMultiple 51 = .ok (.ldc2_w 46, 3) := by decide +kernel
theorem d_Or_subtractMultiple_54 : decode b_Or_subtractMultiple 54 = .ok (.land, 1) := by decide +kernel
theorem d_Or_subtractMultiple_55 : decode b_Or_subtractMultiple 55 = .ok (.lastore, 1) := by decide +kernel
theorem d_Or_subtractMultiple_56 : decode b_Or_subtractMultiple 56 = .ok (.iinc 6 1, 3) := by decide +kernel
theorem d_Or_subtractMultiple_59 : decode b_Or_subtractMultiple 59 = .ok (.goto (-50), 3) := by decide +kernel
theorem d_Or_subtractMultiple_62 : decode b_Or_subtractMultiple 62 = .ok (.aload_n 0, 1) := by decide +kernel
theorem d_Or_subtractMultiple_63 : decode b_Or_subtractMultiple 63 = .ok (.getfield 11, 3) := by decide +kernel
theorem d_Or_subtractMultiple_66 : decode b_Or_subtractMultiple 66 = .ok (.iload_n 3, 1) := by decide +kernel
theorem d_Or_subtractMultiple_67 : decode b_Or_subtractMultiple 67 = .ok (.dup2, 1) := by decide +kernel
theorem d_Or_subtractMultiple_68 : decode b_Or_subtractMultiple 68 = .ok (.laload, 1) := by decide +kernel
theorem d_Or_subtractMultiple_69 : decode b_Or_subtractMultiple 69 = .ok (.lload 4, 2) := by decide +kernel
theorem d_Or_subtractMultiple_71 : decode b_Or_subtractMultiple 71 = .ok (.lload_n 1, 1) := by decide +kernel
theorem d_Or_subtractMultiple_72 : decode b_Or_subtractMultiple 72 = .ok (.getstatic 15, 3) := by decide +kernel
theorem d_Or_subtractMultiple_75 : decode b_Or_subtractMultiple 75 = .ok (.iload_n 3, 1) := by decide +kernel
theorem d_Or_subtractMultiple_76 : decode b_Or_subtractMultiple 76 = .ok (.laload, 1) := by decide +kernel
theorem d_Or_subtractMultiple_77 : decode b_Or_subtractMultiple 77 = .ok (.lmul, 1) := by decide +kernel
theorem d_Or_subtractMultiple_78 : decode b_Or_subtractMultiple 78 = .ok (.lsub, 1) := by decide +kernel
theorem d_Or_subtractMultiple_79 : decode b_Or_subtractMultiple 79 = .ok (.ladd, 1) := by decide +kernel
theorem d_Or_subtractMultiple_80 : decode b_Or_subtractMultiple 80 = .ok (.lastore, 1) := by decide +kernel
theorem d_Or_subtractMultiple_81 : decode b_Or_subtractMultiple 81 = .ok (.return_, 1) := by decide +kernel
theorem d_Or_reduceWide_0 : decode b_Or_reduceWide 0 = .ok (.bipush 63, 2) := by decide +kernel
theorem d_Or_reduceWide_2 : decode b_Or_reduceWide 2 = .ok (.istore_n 2, 1) := by decide +kernel
theorem d_Or_reduceWide_3 : decode b_Or_reduceWide 3 = .ok (.iload_n 2, 1) := by decide +kernel
theorem d_Or_reduceWide_4 : decode b_Or_reduceWide 4 = .ok (.bipush 32, 2) := by decide +kernel
theorem d_Or_reduceWide_6 : decode b_Or_reduceWide 6 = .ok (.if_icmp .lt 14, 3) := by decide +kernel
theorem d_Or_reduceWide_9 : decode b_Or_reduceWide 9 = .ok (.aload_n 0, 1) := by decide +kernel
theorem d_Or_reduceWide_10 : decode b_Or_reduceWide 10 = .ok (.iload_n 2, 1) := by decide +kernel
theorem d_Or_reduceWide_11 : decode b_Or_reduceWide 11 = .ok (.invokevirtual 32, 3) := by decide +kernel
theorem d_Or_reduceWide_14 : decode b_Or_reduceWide 14 = .ok (.iinc 2 (-1), 3) := by decide +kernel
theorem d_Or_reduceWide_17 : decode b_Or_reduceWide 17 = .ok (.goto (-14), 3) := by decide +kernel
theorem d_Or_reduceWide_20 : decode b_Or_reduceWide 20 = .ok (.aload_n 0, 1) := by decide +kernel
theorem d_Or_reduceWide_21 : decode b_Or_reduceWide 21 = .ok (.aload_n 0, 1) := by decide +kernel
theorem d_Or_reduceWide_22 : decode b_Or_reduceWide 22 = .ok (.getfield 11, 3) := by decide +kernel
theorem d_Or_reduceWide_25 : decode b_Or_reduceWide 25 = .ok (.bipush 31, 2) := by decide +kernel
theorem d_Or_reduceWide_27 : decode b_Or_reduceWide 27 = .ok (.laload, 1) := by decide +kernel
theorem d_Or_reduceWide_28 : decode b_Or_reduceWide 28 = .ok (.iconst 4, 1) := by decide +kernel
theorem d_Or_reduceWide_29 : decode b_Or_reduceWide 29 = .ok (.lshr, 1) := by decide +kernel
theorem d_Or_reduceWide_30 : decode b_Or_reduceWide 30 = .ok (.invokevirtual 36, 3) := by decide +kernel
theorem d_Or_reduceWide_33 : decode b_Or_reduceWide 33 = .ok (.aload_n 0, 1) := by decide +kernel
theorem d_Or_reduceWide_34 : decode b_Or_reduceWide 34 = .ok (.getfield 11, 3) := by decide +kernel
theorem d_Or_reduceWide_37 : decode b_Or_reduceWide 37 = .ok (.bipush 31, 2) := by decide +kernel
theorem d_Or_reduceWide_39 : decode b_Or_reduceWide 39 = .ok (.laload, 1) := by decide +kernel
theorem d_Or_reduceWide_40 : decode b_Or_reduceWide 40 = .ok (.lconst 0, 1) := by decide +kernel
theorem d_Or_reduceWide_41 : decode b_Or_reduceWide 41 = .ok (.lcmp, 1) := by decide +kernel
theorem d_Or_reduceWide_42 : decode b_Or_reduceWide 42 = .ok (.ifCond .ge 10, 3) := by decide +kernel
theorem d_Or_reduceWide_45 : decode b_Or_reduceWide 45 = .ok (.aload_n 0, 1) := by decide +kernel
theorem d_Or_reduceWide_46 : decode b_Or_reduceWide 46 = .ok (.ldc2_w 40, 3) := by decide +kernel
theorem d_Or_reduceWide_49 : decode b_Or_reduceWide 49 = .ok (.invokevirtual 36, 3) := by decide +kernel
theorem d_Or_reduceWide_52 : decode b_Or_reduceWide 52 = .ok (.iconst 0, 1) := by decide +kernel
theorem d_Or_reduceWide_53 : decode b_Or_reduceWide 53 = .ok (.istore_n 2, 1) := by decide +kernel
theorem d_Or_reduceWide_54 : decode b_Or_reduceWide 54 = .ok (.iload_n 2, 1) := by decide +kernel
theorem d_Or_reduceWide_55 : decode b_Or_reduceWide 55 = .ok (.bipush 32, 2) := by decide +kernel
theorem d_Or_reduceWide_57 : decode b_Or_reduceWide 57 = .ok (.if_icmp .ge 20, 3) := by decide +kernel
theorem d_Or_reduceWide_60 : decode b_Or_reduceWide 60 = .ok (.aload_n 1, 1) := by decide +kernel
theorem d_Or_reduceWide_61 : decode b_Or_reduceWide 61 = .ok (.iload_n 2, 1) := by decide +kernel
theorem d_Or_reduceWide_62 : decode b_Or_reduceWide 62 = .ok (.aload_n 0, 1) := by decide +kernel
theorem d_Or_reduceWide_63 : decode b_Or_reduceWide 63 = .ok (.getfield 11, 3) := by decide +kernel
theorem d_Or_reduceWide_66 : decode b_Or_reduceWide 66 = .ok (.iload_n 2, 1) := by decide +kernel
theorem d_Or_reduceWide_67 : decode b_Or_reduceWide 67 = .ok (.laload, 1) := by decide +kernel
theorem d_Or_reduceWide_68 : decode b_Or_reduceWide 68 = .ok (.l2i, 1) := by decide +kernel
theorem d_Or_reduceWide_69 : decode b_Or_reduceWide 69 = .ok (.i2b, 1) := by decide +kernel
theorem d_Or_reduceWide_70 : decode b_Or_reduceWide 70 = .ok (.bastore, 1) := by decide +kernel
theorem d_Or_reduceWide_71 : decode b_Or_reduceWide 71 = .ok (.iinc 2 1, 3) := by decide +kernel
theorem d_Or_reduceWide_74 : decode b_Or_reduceWide 74 = .ok (.goto (-20), 3) := by decide +kernel
theorem d_Or_reduceWide_77 : decode b_Or_reduceWide 77 = .ok (.return_, 1) := by decide +kernel
theorem d_Or_reduce_0 : decode b_Or_reduce 0 = .ok (.iconst 0, 1) := by decide +kernel
theorem d_Or_reduce_1 : decode b_Or_reduce 1 = .ok (.istore_n 3, 1) := by decide +kernel
theorem d_Or_reduce_2 : decode b_Or_reduce 2 = .ok (.iload_n 3, 1) := by decide +kernel
theorem d_Or_reduce_3 : decode b_Or_reduce 3 = .ok (.bipush 64, 2) := by decide +kernel
theorem d_Or_reduce_5 : decode b_Or_reduce 5 = .ok (.if_icmp .ge 23, 3) := by decide +kernel
theorem d_Or_reduce_8 : decode b_Or_reduce 8 = .ok (.aload_n 0, 1) := by decide +kernel
theorem d_Or_reduce_9 : decode b_Or_reduce 9 = .ok (.getfield 11, 3) := by decide +kernel
theorem d_Or_reduce_12 : decode b_Or_reduce 12 = .ok (.iload_n 3, 1) := by decide +kernel
theorem d_Or_reduce_13 : decode b_Or_reduce 13 = .ok (.aload_n 2, 1) := by decide +kernel
theorem d_Or_reduce_14 : decode b_Or_reduce 14 = .ok (.iload_n 3, 1) := by decide +kernel
theorem d_Or_reduce_15 : decode b_Or_reduce 15 = .ok (.baload, 1) := by decide +kernel
theorem d_Or_reduce_16 : decode b_Or_reduce 16 = .ok (.sipush 255, 3) := by decide +kernel
theorem d_Or_reduce_19 : decode b_Or_reduce 19 = .ok (.iand, 1) := by decide +kernel
theorem d_Or_reduce_20 : decode b_Or_reduce 20 = .ok (.i2l, 1) := by decide +kernel
theorem d_Or_reduce_21 : decode b_Or_reduce 21 = .ok (.lastore, 1) := by decide +kernel
theorem d_Or_reduce_22 : decode b_Or_reduce 22 = .ok (.iinc 3 1, 3) := by decide +kernel
theorem d_Or_reduce_25 : decode b_Or_reduce 25 = .ok (.goto (-23), 3) := by decide +kernel
theorem d_Or_reduce_28 : decode b_Or_reduce 28 = .ok (.aload_n 0, 1) := by decide +kernel
theorem d_Or_reduce_29 : decode b_Or_reduce 29 = .ok (.aload_n 1, 1) := by decide +kernel
theorem d_Or_reduce_30 : decode b_Or_reduce 30 = .ok (.invokevirtual 18, 3) := by decide +kernel
theorem d_Or_reduce_33 : decode b_Or_reduce 33 = .ok (.return_, 1) := by decide +kernel
theorem d_Or_reduceForAnyPoint_0 : decode b_Or_reduceForAnyPoint 0 = .ok (.aload_n 0, 1) := by decide +kernel
theorem d_Or_reduceForAnyPoint_1 : decode b_Or_reduceForAnyPoint 1 = .ok (.aload_n 1, 1) := by decide +kernel
theorem d_Or_reduceForAnyPoint_2 : decode b_Or_reduceForAnyPoint 2 = .ok (.aload_n 2, 1) := by decide +kernel
theorem d_Or_reduceForAnyPoint_3 : decode b_Or_reduceForAnyPoint 3 = .ok (.invokevirtual 22, 3) := by decide +kernel
theorem d_Or_reduceForAnyPoint_6 : decode b_Or_reduceForAnyPoint 6 = .ok (.iconst 5, 1) := by decide +kernel
theorem d_Or_reduceForAnyPoint_7 : decode b_Or_reduceForAnyPoint 7 = .ok (.aload_n 2, 1) := by decide +kernel
theorem d_Or_reduceForAnyPoint_8 : decode b_Or_reduceForAnyPoint 8 = .ok (.iconst 0, 1) := by decide +kernel
theorem d_Or_reduceForAnyPoint_9 : decode b_Or_reduceForAnyPoint 9 = .ok (.baload, 1) := by decide +kernel
theorem d_Or_reduceForAnyPoint_10 : decode b_Or_reduceForAnyPoint 10 = .ok (.aload_n 1, 1) := by decide +kernel
theorem d_Or_reduceForAnyPoint_11 : decode b_Or_reduceForAnyPoint 11 = .ok (.iconst 0, 1) := by decide +kernel
theorem d_Or_reduceForAnyPoint_12 : decode b_Or_reduceForAnyPoint 12 = .ok (.baload, 1) := by decide +kernel
theorem d_Or_reduceForAnyPoint_13 : decode b_Or_reduceForAnyPoint 13 = .ok (.isub, 1) := by decide +kernel
theorem d_Or_reduceForAnyPoint_14 : decode b_Or_reduceForAnyPoint 14 = .ok (.imul, 1) := by decide +kernel
theorem d_Or_reduceForAnyPoint_15 : decode b_Or_reduceForAnyPoint 15 = .ok (.bipush 7, 2) := by decide +kernel
theorem d_Or_reduceForAnyPoint_17 : decode b_Or_reduceForAnyPoint 17 = .ok (.iand, 1) := by decide +kernel
theorem d_Or_reduceForAnyPoint_18 : decode b_Or_reduceForAnyPoint 18 = .ok (.istore_n 3, 1) := by decide +kernel
theorem d_Or_reduceForAnyPoint_19 : decode b_Or_reduceForAnyPoint 19 = .ok (.lconst 0, 1) := by decide +kernel
theorem d_Or_reduceForAnyPoint_20 : decode b_Or_reduceForAnyPoint 20 = .ok (.lstore 4, 2) := by decide +kernel
theorem d_Or_reduceForAnyPoint_22 : decode b_Or_reduceForAnyPoint 22 = .ok (.iconst 0, 1) := by decide +kernel
theorem d_Or_reduceForAnyPoint_23 : decode b_Or_reduceForAnyPoint 23 = .ok (.istore 6, 2) := by decide +kernel
theorem d_Or_reduceForAnyPoint_25 : decode b_Or_reduceForAnyPoint 25 = .ok (.iload 6, 2) := by decide +kernel
theorem d_Or_reduceForAnyPoint_27 : decode b_Or_reduceForAnyPoint 27 = .ok (.bipush 32, 2) := by decide +kernel
theorem d_Or_reduceForAnyPoint_29 : decode b_Or_reduceForAnyPoint 29 = .ok (.if_icmp .ge 48, 3) := by decide +kernel
theorem d_Or_reduceForAnyPoint_32 : decode b_Or_reduceForAnyPoint 32 = .ok (.lload 4, 2) := by decide +kernel
theorem d_Or_reduceForAnyPoint_34 : decode b_Or_reduceForAnyPoint 34 = .ok (.aload_n 1, 1) := by decide +kernel
theorem d_Or_reduceForAnyPoint_35 : decode b_Or_reduceForAnyPoint 35 = .ok (.iload 6, 2) := by decide +kernel
theorem d_Or_reduceForAnyPoint_37 : decode b_Or_reduceForAnyPoint 37 = .ok (.baload, 1) := by decide +kernel
theorem d_Or_reduceForAnyPoint_38 : decode b_Or_reduceForAnyPoint 38 = .ok (.sipush 255, 3) := by decide +kernel
theorem d_Or_reduceForAnyPoint_41 : decode b_Or_reduceForAnyPoint 41 = .ok (.iand, 1) := by decide +kernel
theorem d_Or_reduceForAnyPoint_42 : decode b_Or_reduceForAnyPoint 42 = .ok (.i2l, 1) := by decide +kernel
theorem d_Or_reduceForAnyPoint_43 : decode b_Or_reduceForAnyPoint 43 = .ok (.iload_n 3, 1) := by decide +kernel
theorem d_Or_reduceForAnyPoint_44 : decode b_Or_reduceForAnyPoint 44 = .ok (.i2l, 1) := by decide +kernel
theorem d_Or_reduceForAnyPoint_45 : decode b_Or_reduceForAnyPoint 45 = .ok (.getstatic 15, 3) := by decide +kernel
theorem d_Or_reduceForAnyPoint_48 : decode b_Or_reduceForAnyPoint 48 = .ok (.iload 6, 2) := by decide +kernel
theorem d_Or_reduceForAnyPoint_50 : decode b_Or_reduceForAnyPoint 50 = .ok (.laload, 1) := by decide +kernel
theorem d_Or_reduceForAnyPoint_51 : decode b_Or_reduceForAnyPoint 51 = .ok (.lmul, 1) := by decide +kernel
theorem d_Or_reduceForAnyPoint_52 : decode b_Or_reduceForAnyPoint 52 = .ok (.ladd, 1) := by decide +kernel
theorem d_Or_reduceForAnyPoint_53 : decode b_Or_reduceForAnyPoint 53 = .ok (.ladd, 1) := by decide +kernel
theorem d_Or_reduceForAnyPoint_54 : decode b_Or_reduceForAnyPoint 54 = .ok (.lstore 4, 2) := by decide +kernel
theorem d_Or_reduceForAnyPoint_56 : decode b_Or_reduceForAnyPoint 56 = .ok (.aload_n 1, 1) := by decide +kernel
theorem d_Or_reduceForAnyPoint_57 : decode b_Or_reduceForAnyPoint 57 = .ok (.iload 6, 2) := by decide +kernel
theorem d_Or_reduceForAnyPoint_59 : decode b_Or_reduceForAnyPoint 59 = .ok (.lload 4, 2) := by decide +kernel
theorem d_Or_reduceForAnyPoint_61 : decode b_Or_reduceForAnyPoint 61 = .ok (.l2i, 1) := by decide +kernel
theorem d_Or_reduceForAnyPoint_62 : decode b_Or_reduceForAnyPoint 62 = .ok (.i2b, 1) := by decide +kernel
theorem d_Or_reduceForAnyPoint_63 : decode b_Or_reduceForAnyPoint 63 = .ok (.bastore, 1) := by decide +kernel
theorem d_Or_reduceForAnyPoint_64 : decode b_Or_reduceForAnyPoint 64 = .ok (.lload 4, 2) := by decide +kernel
theorem d_Or_reduceForAnyPoint_66 : decode b_Or_reduceForAnyPoint 66 = .ok (.bipush 8, 2) := by decide +kernel
theorem d_Or_reduceForAnyPoint_68 : decode b_Or_reduceForAnyPoint 68 = .ok (.lshr, 1) := by decide +kernel
theorem d_Or_reduceForAnyPoint_69 : decode b_Or_reduceForAnyPoint 69 = .ok (.lstore 4, 2) := by decide +kernel
theorem d_Or_reduceForAnyPoint_71 : decode b_Or_reduceForAnyPoint 71 = .ok (.iinc 6 1, 3) := by decide +kernel
theorem d_Or_reduceForAnyPoint_74 : decode b_Or_reduceForAnyPoint 74 = .ok (.goto (-49), 3) := by decide +kernel
theorem d_Or_reduceForAnyPoint_77 : decode b_Or_reduceForAnyPoint 77 = .ok (.return_, 1) := by decide +kernel
theorem d_Or_multiplyAndAdd_0 : decode b_Or_multiplyAndAdd 0 = .ok (.aload_n 0, 1) := by decide +kernel
theorem d_Or_multiplyAndAdd_1 : decode b_Or_multiplyAndAdd 1 = .ok (.getfield 11, 3) := by decide +kernel
theorem d_Or_multiplyAndAdd_4 : decode b_Or_multiplyAndAdd 4 = .ok (.lconst 0, 1) := by decide +kernel
theorem d_Or_multiplyAndAdd_5 : decode b_Or_multiplyAndAdd 5 = .ok (.invokestatic 26, 3) := by decide +kernel
theorem d_Or_multiplyAndAdd_8 : decode b_Or_multiplyAndAdd 8 = .ok (.iconst 0, 1) := by decide +kernel
theorem d_Or_multiplyAndAdd_9 : decode b_Or_multiplyAndAdd 9 = .ok (.istore 5, 2) := by decide +kernel
theorem d_Or_multiplyAndAdd_11 : decode b_Or_multiplyAndAdd 11 = .ok (.iload 5, 2) := by decide +kernel
theorem d_Or_multiplyAndAdd_13 : decode b_Or_multiplyAndAdd 13 = .ok (.bipush 32, 2) := by decide +kernel
theorem d_Or_multiplyAndAdd_15 : decode b_Or_multiplyAndAdd 15 = .ok (.if_icmp .ge 76, 3) := by decide +kernel
theorem d_Or_multiplyAndAdd_18 : decode b_Or_multiplyAndAdd 18 = .ok (.aload_n 0, 1) := by decide +kernel
theorem d_Or_multiplyAndAdd_19 : decode b_Or_multiplyAndAdd 19 = .ok (.getfield 11, 3) := by decide +kernel
theorem d_Or_multiplyAndAdd_22 : decode b_Or_multiplyAndAdd 22 = .ok (.iload 5, 2) := by decide +kernel
theorem d_Or_multiplyAndAdd_24 : decode b_Or_multiplyAndAdd 24 = .ok (.dup2, 1) := by decide +kernel
theorem d_Or_multiplyAndAdd_25 : decode b_Or_multiplyAndAdd 25 = .ok (.laload, 1) := by decide +kernel
theorem d_Or_multiplyAndAdd_26 : decode b_Or_multiplyAndAdd 26 = .ok (.aload 4, 2) := by decide +kernel
theorem d_Or_multiplyAndAdd_28 : decode b_Or_multiplyAndAdd 28 = .ok (.iload 5, 2) := by decide +kernel
theorem d_Or_multiplyAndAdd_30 : decode b_Or_multiplyAndAdd 30 = .ok (.baload, 1) := by decide +kernel
theorem d_Or_multiplyAndAdd_31 : decode b_Or_multiplyAndAdd 31 = .ok (.sipush 255, 3) := by decide +kernel
theorem d_Or_multiplyAndAdd_34 : decode b_Or_multiplyAndAdd 34 = .ok (.iand, 1) := by decide +kernel
theorem d_Or_multiplyAndAdd_35 : decode b_Or_multiplyAndAdd 35 = .ok (.i2l, 1) := by decide +kernel
theorem d_Or_multiplyAndAdd_36 : decode b_Or_multiplyAndAdd 36 = .ok (.ladd, 1) := by decide +kernel
theorem d_Or_multiplyAndAdd_37 : decode b_Or_multiplyAndAdd 37 = .ok (.lastore, 1) := by decide +kernel
theorem d_Or_multiplyAndAdd_38 : decode b_Or_multiplyAndAdd 38 = .ok (.iconst 0, 1) := by decide +kernel
theorem d_Or_multiplyAndAdd_39 : decode b_Or_multiplyAndAdd 39 = .ok (.istore 6, 2) := by decide +kernel
theorem d_Or_multiplyAndAdd_41 : decode b_Or_multiplyAndAdd 41 = .ok (.iload 6, 2) := by decide +kernel
theorem d_Or_multiplyAndAdd_43 : decode b_Or_multiplyAndAdd 43 = .ok (.bipush 32, 2) := by decide +kernel
theorem d_Or_multiplyAndAdd_45 : decode b_Or_multiplyAndAdd 45 = .ok (.if_icmp .ge 40, 3) := by decide +kernel
theorem d_Or_multiplyAndAdd_48 : decode b_Or_multiplyAndAdd 48 = .ok (.aload_n 0, 1) := by decide +kernel
theorem d_Or_multiplyAndAdd_49 : decode b_Or_multiplyAndAdd 49 = .ok (.getfield 11, 3) := by decide +kernel
theorem d_Or_multiplyAndAdd_52 : decode b_Or_multiplyAndAdd 52 = .ok (.iload 5, 2) := by decide +kernel
theorem d_Or_multiplyAndAdd_54 : decode b_Or_multiplyAndAdd 54 = .ok (.iload 6, 2) := by decide +kernel
theorem d_Or_multiplyAndAdd_56 : decode b_Or_multiplyAndAdd 56 = .ok (.iadd, 1) := by decide +kernel
theorem d_Or_multiplyAndAdd_57 : decode b_Or_multiplyAndAdd 57 = .ok (.dup2, 1) := by decide +kernel
theorem d_Or_multiplyAndAdd_58 : decode b_Or_multiplyAndAdd 58 = .ok (.laload, 1) := by decide +kernel
theorem d_Or_multiplyAndAdd_59 : decode b_Or_multiplyAndAdd 59 = .ok (.aload_n 2, 1) := by decide +kernel
theorem d_Or_multiplyAndAdd_60 : decode b_Or_multiplyAndAdd 60 = .ok (.iload 5, 2) := by decide +kernel
theorem d_Or_multiplyAndAdd_62 : decode b_Or_multiplyAndAdd 62 = .ok (.baload, 1) := by decide +kernel
theorem d_Or_multiplyAndAdd_63 : decode b_Or_multiplyAndAdd 63 = .ok (.sipush 255, 3) := by decide +kernel
theorem d_Or_multiplyAndAdd_66 : decode b_Or_multiplyAndAdd 66 = .ok (.iand, 1) := by decide +kernel
theorem d_Or_multiplyAndAdd_67 : decode b_Or_multiplyAndAdd 67 = .ok (.aload_n 3, 1) := by decide +kernel
theorem d_Or_multiplyAndAdd_68 : decode b_Or_multiplyAndAdd 68 = .ok (.iload 6, 2) := by decide +kernel
theorem d_Or_multiplyAndAdd_70 : decode b_Or_multiplyAndAdd 70 = .ok (.baload, 1) := by decide +kernel
theorem d_Or_multiplyAndAdd_71 : decode b_Or_multiplyAndAdd 71 = .ok (.sipush 255, 3) := by decide +kernel
theorem d_Or_multiplyAndAdd_74 : decode b_Or_multiplyAndAdd 74 = .ok (.iand, 1) := by decide +kernel
theorem d_Or_multiplyAndAdd_75 : decode b_Or_multiplyAndAdd 75 = .ok (.imul, 1) := by decide +kernel
theorem d_Or_multiplyAndAdd_76 : decode b_Or_multiplyAndAdd 76 = .ok (.i2l, 1) := by decide +kernel
theorem d_Or_multiplyAndAdd_77 : decode b_Or_multiplyAndAdd 77 = .ok (.ladd, 1) := by decide +kernel
theorem d_Or_multiplyAndAdd_78 : decode b_Or_multiplyAndAdd 78 = .ok (.lastore, 1) := by decide +kernel
theorem d_Or_multiplyAndAdd_79 : decode b_Or_multiplyAndAdd 79 = .ok (.iinc 6 1, 3) := by decide +kernel
theorem d_Or_multiplyAndAdd_82 : decode b_Or_multiplyAndAdd 82 = .ok (.goto (-41), 3) := by decide +kernel
theorem d_Or_multiplyAndAdd_85 : decode b_Or_multiplyAndAdd 85 = .ok (.iinc 5 1, 3) := by decide +kernel
theorem d_Or_multiplyAndAdd_88 : decode b_Or_multiplyAndAdd 88 = .ok (.goto (-77), 3) := by decide +kernel
theorem d_Or_multiplyAndAdd_91 : decode b_Or_multiplyAndAdd 91 = .ok (.aload_n 0, 1) := by decide +kernel
theorem d_Or_multiplyAndAdd_92 : decode b_Or_multiplyAndAdd 92 = .ok (.aload_n 1, 1) := by decide +kernel
theorem d_Or_multiplyAndAdd_93 : decode b_Or_multiplyAndAdd 93 = .ok (.invokevirtual 18, 3) := by decide +kernel
theorem d_Or_multiplyAndAdd_96 : decode b_Or_multiplyAndAdd 96 = .ok (.return_, 1) := by decide +kernel
