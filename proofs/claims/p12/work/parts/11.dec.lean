theorem d_M_reduce_0 : decode b_M_reduce 0 = .ok (.iconst 0, 1) := by decide +kernel
theorem d_M_reduce_1 : decode b_M_reduce 1 = .ok (.istore 4, 2) := by decide +kernel
theorem d_M_reduce_3 : decode b_M_reduce 3 = .ok (.iload 4, 2) := by decide +kernel
theorem d_M_reduce_5 : decode b_M_reduce 5 = .ok (.bipush 16, 2) := by decide +kernel
theorem d_M_reduce_7 : decode b_M_reduce 7 = .ok (.if_icmp .ge 69, 3) := by decide +kernel
theorem d_M_reduce_10 : decode b_M_reduce 10 = .ok (.aload_n 0, 1) := by decide +kernel
theorem d_M_reduce_11 : decode b_M_reduce 11 = .ok (.getfield 123, 3) := by decide +kernel
theorem d_M_reduce_14 : decode b_M_reduce 14 = .ok (.iload 4, 2) := by decide +kernel
theorem d_M_reduce_16 : decode b_M_reduce 16 = .ok (.laload, 1) := by decide +kernel
theorem d_M_reduce_17 : decode b_M_reduce 17 = .ok (.lstore 5, 2) := by decide +kernel
theorem d_M_reduce_19 : decode b_M_reduce 19 = .ok (.iconst 0, 1) := by decide +kernel
theorem d_M_reduce_20 : decode b_M_reduce 20 = .ok (.istore 7, 2) := by decide +kernel
theorem d_M_reduce_22 : decode b_M_reduce 22 = .ok (.iload 7, 2) := by decide +kernel
theorem d_M_reduce_24 : decode b_M_reduce 24 = .ok (.bipush 16, 2) := by decide +kernel
theorem d_M_reduce_26 : decode b_M_reduce 26 = .ok (.if_icmp .ge 35, 3) := by decide +kernel
theorem d_M_reduce_29 : decode b_M_reduce 29 = .ok (.lload 5, 2) := by decide +kernel
theorem d_M_reduce_31 : decode b_M_reduce 31 = .ok (.aload_n 0, 1) := by decide +kernel
theorem d_M_reduce_32 : decode b_M_reduce 32 = .ok (.getfield 123, 3) := by decide +kernel
theorem d_M_reduce_35 : decode b_M_reduce 35 = .ok (.bipush 16, 2) := by decide +kernel
theorem d_M_reduce_37 : decode b_M_reduce 37 = .ok (.iload 7, 2) := by decide +kernel
theorem d_M_reduce_39 : decode b_M_reduce 39 = .ok (.iadd, 1) := by decide +kernel
theorem d_M_reduce_40 : decode b_M_reduce 40 = .ok (.laload, 1) := by decide +kernel
theorem d_M_reduce_41 : decode b_M_reduce 41 = .ok (.aload_n 3, 1) := by decide +kernel
theorem d_M_reduce_42 : decode b_M_reduce 42 = .ok (.bipush 16, 2) := by decide +kernel
theorem d_M_reduce_44 : decode b_M_reduce 44 = .ok (.iload 7, 2) := by decide +kernel
theorem d_M_reduce_46 : decode b_M_reduce 46 = .ok (.imul, 1) := by decide +kernel
theorem d_M_reduce_47 : decode b_M_reduce 47 = .ok (.iload 4, 2) := by decide +kernel
theorem d_M_reduce_49 : decode b_M_reduce 49 = .ok (.iadd, 1) := by decide +kernel
theorem d_M_reduce_50 : decode b_M_reduce 50 = .ok (.laload, 1) := by decide +kernel
theorem d_M_reduce_51 : decode b_M_reduce 51 = .ok (.lmul, 1) := by decide +kernel
theorem d_M_reduce_52 : decode b_M_reduce 52 = .ok (.ladd, 1) := by decide +kernel
theorem d_M_reduce_53 : decode b_M_reduce 53 = .ok (.lstore 5, 2) := by decide +kernel
theorem d_M_reduce_55 : decode b_M_reduce 55 = .ok (.iinc 7 1, 3) := by decide +kernel
theorem d_M_reduce_58 : decode b_M_reduce 58 = .ok (.goto (-36), 3) := by decide +kernel
theorem d_M_reduce_61 : decode b_M_reduce 61 = .ok (.aload_n 0, 1) := by decide +kernel
theorem d_M_reduce_62 : decode b_M_reduce 62 = .ok (.getfield 126, 3) := by decide +kernel
theorem d_M_reduce_65 : decode b_M_reduce 65 = .ok (.iload 4, 2) := by decide +kernel
theorem d_M_reduce_67 : decode b_M_reduce 67 = .ok (.lload 5, 2) := by decide +kernel
theorem d_M_reduce_69 : decode b_M_reduce 69 = .ok (.lastore, 1) := by decide +kernel
theorem d_M_reduce_70 : decode b_M_reduce 70 = .ok (.iinc 4 1, 3) := by decide +kernel
theorem d_M_reduce_73 : decode b_M_reduce 73 = .ok (.goto (-70), 3) := by decide +kernel
theorem d_M_reduce_76 : decode b_M_reduce 76 = .ok (.lconst 1, 1) := by decide +kernel
theorem d_M_reduce_77 : decode b_M_reduce 77 = .ok (.lstore 4, 2) := by decide +kernel
theorem d_M_reduce_79 : decode b_M_reduce 79 = .ok (.iconst 0, 1) := by decide +kernel
theorem d_M_reduce_80 : decode b_M_reduce 80 = .ok (.istore 6, 2) := by decide +kernel
theorem d_M_reduce_82 : decode b_M_reduce 82 = .ok (.iload 6, 2) := by decide +kernel
theorem d_M_reduce_84 : decode b_M_reduce 84 = .ok (.bipush 9, 2) := by decide +kernel
theorem d_M_reduce_86 : decode b_M_reduce 86 = .ok (.if_icmp .ge 104, 3) := by decide +kernel
theorem d_M_reduce_89 : decode b_M_reduce 89 = .ok (.lload 4, 2) := by decide +kernel
theorem d_M_reduce_91 : decode b_M_reduce 91 = .ok (.lconst 0, 1) := by decide +kernel
theorem d_M_reduce_92 : decode b_M_reduce 92 = .ok (.lcmp, 1) := by decide +kernel
theorem d_M_reduce_93 : decode b_M_reduce 93 = .ok (.ifCond .le 97, 3) := by decide +kernel
theorem d_M_reduce_96 : decode b_M_reduce 96 = .ok (.lconst 0, 1) := by decide +kernel
theorem d_M_reduce_97 : decode b_M_reduce 97 = .ok (.lstore 7, 2) := by decide +kernel
theorem d_M_reduce_99 : decode b_M_reduce 99 = .ok (.iconst 0, 1) := by decide +kernel
theorem d_M_reduce_100 : decode b_M_reduce 100 = .ok (.istore 9, 2) := by decide +kernel
theorem d_M_reduce_102 : decode b_M_reduce 102 = .ok (.iload 9, 2) := by decide +kernel
theorem d_M_reduce_104 : decode b_M_reduce 104 = .ok (.bipush 16, 2) := by decide +kernel
theorem d_M_reduce_106 : decode b_M_reduce 106 = .ok (.if_icmp .ge 41, 3) := by decide +kernel
theorem d_M_reduce_109 : decode b_M_reduce 109 = .ok (.lload 7, 2) := by decide +kernel
theorem d_M_reduce_111 : decode b_M_reduce 111 = .ok (.aload_n 0, 1) := by decide +kernel
theorem d_M_reduce_112 : decode b_M_reduce 112 = .ok (.getfield 126, 3) := by decide +kernel
theorem d_M_reduce_115 : decode b_M_reduce 115 = .ok (.iload 9, 2) := by decide +kernel
theorem d_M_reduce_117 : decode b_M_reduce 117 = .ok (.laload, 1) := by decide +kernel
theorem d_M_reduce_118 : decode b_M_reduce 118 = .ok (.ladd, 1) := by decide +kernel
theorem d_M_reduce_119 : decode b_M_reduce 119 = .ok (.lstore 7, 2) := by decide +kernel
theorem d_M_reduce_121 : decode b_M_reduce 121 = .ok (.aload_n 0, 1) := by decide +kernel
theorem d_M_reduce_122 : decode b_M_reduce 122 = .ok (.getfield 126, 3) := by decide +kernel
theorem d_M_reduce_125 : decode b_M_reduce 125 = .ok (.iload 9, 2) := by decide +kernel
theorem d_M_reduce_127 : decode b_M_reduce 127 = .ok (.lload 7, 2) := by decide +kernel
theorem d_M_reduce_129 : decode b_M_reduce 129 = .ok (.ldc2_w 169, 3) := by decide +kernel
theorem d_M_reduce_132 : decode b_M_reduce 132 = .ok (.land, 1) := by decide +kernel
theorem d_M_reduce_133 : decode b_M_reduce 133 = .ok (.lastore, 1) := by decide +kernel
theorem d_M_reduce_134 : decode b_M_reduce 134 = .ok (.lload 7, 2) := by decide +kernel
theorem d_M_reduce_136 : decode b_M_reduce 136 = .ok (.bipush 16, 2) := by decide +kernel
theorem d_M_reduce_138 : decode b_M_reduce 138 = .ok (.lshr, 1) := by decide +kernel
theorem d_M_reduce_139 : decode b_M_reduce 139 = .ok (.lstore 7, 2) := by decide +kernel
theorem d_M_reduce_141 : decode b_M_reduce 141 = .ok (.iinc 9 1, 3) := by decide +kernel
theorem d_M_reduce_144 : decode b_M_reduce 144 = .ok (.goto (-42), 3) := by decide +kernel
theorem d_M_reduce_147 : decode b_M_reduce 147 = .ok (.lload 7, 2) := by decide +kernel
theorem d_M_reduce_149 : decode b_M_reduce 149 = .ok (.lstore 4, 2) := by decide +kernel
theorem d_M_reduce_151 : decode b_M_reduce 151 = .ok (.iconst 0, 1) := by decide +kernel
theorem d_M_reduce_152 : decode b_M_reduce 152 = .ok (.istore 9, 2) := by decide +kernel
theorem d_M_reduce_154 : decode b_M_reduce 154 = .ok (.iload 9, 2) := by decide +kernel
theorem d_M_reduce_156 : decode b_M_reduce 156 = .ok (.bipush 16, 2) := by decide +kernel
theorem d_M_reduce_158 : decode b_M_reduce 158 = .ok (.if_icmp .ge 26, 3) := by decide +kernel
theorem d_M_reduce_161 : decode b_M_reduce 161 = .ok (.aload_n 0, 1) := by decide +kernel
theorem d_M_reduce_162 : decode b_M_reduce 162 = .ok (.getfield 126, 3) := by decide +kernel
theorem d_M_reduce_165 : decode b_M_reduce 165 = .ok (.iload 9, 2) := by decide +kernel
theorem d_M_reduce_167 : decode b_M_reduce 167 = .ok (.dup2, 1) := by decide +kernel
theorem d_M_reduce_168 : decode b_M_reduce 168 = .ok (.laload, 1) := by decide +kernel
theorem d_M_reduce_169 : decode b_M_reduce 169 = .ok (.lload 4, 2) := by decide +kernel
theorem d_M_reduce_171 : decode b_M_reduce 171 = .ok (.aload_n 3, 1) := by decide +kernel
theorem d_M_reduce_172 : decode b_M_reduce 172 = .ok (.iload 9, 2) := by decide +kernel
theorem d_M_reduce_174 : decode b_M_reduce 174 = .ok (.laload, 1) := by decide +kernel
theorem d_M_reduce_175 : decode b_M_reduce 175 = .ok (.lmul, 1) := by decide +kernel
theorem d_M_reduce_176 : decode b_M_reduce 176 = .ok (.ladd, 1) := by decide +kernel
theorem d_M_reduce_177 : decode b_M_reduce 177 = .ok (.lastore, 1) := by decide +kernel
theorem d_M_reduce_178 : decode b_M_reduce 178 = .ok (.iinc 9 1, 3) := by decide +kernel
theorem d_M_reduce_181 : decode b_M_reduce 181 = .ok (.goto (-27), 3) := by decide +kernel
theorem d_M_reduce_184 : decode b_M_reduce 184 = .ok (.iinc 6 1, 3) := by decide +kernel
theorem d_M_reduce_187 : decode b_M_reduce 187 = .ok (.goto (-105), 3) := by decide +kernel
theorem d_M_reduce_190 : decode b_M_reduce 190 = .ok (.iconst 0, 1) := by decide +kernel
theorem d_M_reduce_191 : decode b_M_reduce 191 = .ok (.istore 6, 2) := by decide +kernel
theorem d_M_reduce_193 : decode b_M_reduce 193 = .ok (.iload 6, 2) := by decide +kernel
theorem d_M_reduce_195 : decode b_M_reduce 195 = .ok (.bipush 16, 2) := by decide +kernel
theorem d_M_reduce_197 : decode b_M_reduce 197 = .ok (.if_icmp .ge 20, 3) := by decide +kernel
theorem d_M_reduce_200 : decode b_M_reduce 200 = .ok (.aload_n 1, 1) := by decide +kernel
theorem d_M_reduce_201 : decode b_M_reduce 201 = .ok (.iload 6, 2) := by decide +kernel
theorem d_M_reduce_203 : decode b_M_reduce 203 = .ok (.aload_n 0, 1) := by decide +kernel
theorem d_M_reduce_204 : decode b_M_reduce 204 = .ok (.getfield 126, 3) := by decide +kernel
theorem d_M_reduce_207 : decode b_M_reduce 207 = .ok (.iload 6, 2) := by decide +kernel
theorem d_M_reduce_209 : decode b_M_reduce 209 = .ok (.laload, 1) := by decide +kernel
theorem d_M_reduce_210 : decode b_M_reduce 210 = .ok (.lastore, 1) := by decide +kernel
theorem d_M_reduce_211 : decode b_M_reduce 211 = .ok (.iinc 6 1, 3) := by decide +kernel
theorem d_M_reduce_214 : decode b_M_reduce 214 = .ok (.goto (-21), 3) := by decide +kernel
theorem d_M_reduce_217 : decode b_M_reduce 217 = .ok (.iconst 0, 1) := by decide +kernel
theorem d_M_reduce_218 : decode b_M_reduce 218 = .ok (.istore 6, 2) := by decide +kernel
theorem d_M_reduce_220 : decode b_M_reduce 220 = .ok (.iload 6, 2) := by decide +kernel
theorem d_M_reduce_222 : decode b_M_reduce 222 = .ok (.bipush 16, 2) := by decide +kernel
theorem d_M_reduce_224 : decode b_M_reduce 224 = .ok (.if_icmp .ge 23, 3) := by decide +kernel
theorem d_M_reduce_227 : decode b_M_reduce 227 = .ok (.aload_n 1, 1) := by decide +kernel
theorem d_M_reduce_228 : decode b_M_reduce 228 = .ok (.aload_n 2, 1) := by decide +kernel
theorem d_M_reduce_229 : decode b_M_reduce 229 = .ok (.invokestatic 215, 3) := by decide +kernel
theorem d_M_reduce_232 : decode b_M_reduce 232 = .ok (.ifCond .ne 15, 3) := by decide +kernel
theorem d_M_reduce_235 : decode b_M_reduce 235 = .ok (.aload_n 1, 1) := by decide +kernel
theorem d_M_reduce_236 : decode b_M_reduce 236 = .ok (.aload_n 1, 1) := by decide +kernel
theorem d_M_reduce_237 : decode b_M_reduce 237 = .ok (.aload_n 2, 1) := by decide +kernel
theorem d_M_reduce_238 : decode b_M_reduce 238 = .ok (.invokestatic 219, 3) := by decide +kernel
theorem d_M_reduce_241 : decode b_M_reduce 241 = .ok (.iinc 6 1, 3) := by decide +kernel
theorem d_M_reduce_244 : decode b_M_reduce 244 = .ok (.goto (-24), 3) := by decide +kernel
theorem d_M_reduce_247 : decode b_M_reduce 247 = .ok (.return_, 1) := by decide +kernel
theorem d_M_times_0 : decode b_M_times 0 = .ok (.iconst 0, 1) := by decide +kernel
theorem d_M_times_1 : decode b_M_times 1 = .ok (.istore 6, 2) := by decide +kernel
theorem d_M_times_3 : decode b_M_times 3 = .ok (.iload 6, 2) := by decide +kernel
theorem d_M_times_5 : decode b_M_times 5 = .ok (.bipush 32, 2) := by decide +kernel
theorem d_M_times_7 : decode b_M_times 7 = .ok (.if_icmp .ge 17, 3) := by decide +kernel
theorem d_M_times_10 : decode b_M_times 10 = .ok (.aload_n 0, 1) := by decide +kernel
theorem d_M_times_11 : decode b_M_times 11 = .ok (.getfield 123, 3) := by decide +kernel
theorem d_M_times_14 : decode b_M_times 14 = .ok (.iload 6, 2) := by decide +kernel
theorem d_M_times_16 : decode b_M_times 16 = .ok (.lconst 0, 1) := by decide +kernel
theorem d_M_times_17 : decode b_M_times 17 = .ok (.lastore, 1) := by decide +kernel
theorem d_M_times_18 : decode b_M_times 18 = .ok (.iinc 6 1, 3) := by decide +kernel
theorem d_M_times_21 : decode b_M_times 21 = .ok (.goto (-18), 3) := by decide +kernel
theorem d_M_times_24 : decode b_M_times 24 = .ok (.iconst 0, 1) := by decide +kernel
theorem d_M_times_25 : decode b_M_times 25 = .ok (.istore 6, 2) := by decide +kernel
theorem d_M_times_27 : decode b_M_times 27 = .ok (.iload 6, 2) := by decide +kernel
theorem d_M_times_29 : decode b_M_times 29 = .ok (.bipush 16, 2) := by decide +kernel
theorem d_M_times_31 : decode b_M_times 31 = .ok (.if_icmp .ge 88, 3) := by decide +kernel
theorem d_M_times_34 : decode b_M_times 34 = .ok (.lconst 0, 1) := by decide +kernel
theorem d_M_times_35 : decode b_M_times 35 = .ok (.lstore 7, 2) := by decide +kernel
theorem d_M_times_37 : decode b_M_times 37 = .ok (.iconst 0, 1) := by decide +kernel
theorem d_M_times_38 : decode b_M_times 38 = .ok (.istore 9, 2) := by decide +kernel
theorem d_M_times_40 : decode b_M_times 40 = .ok (.iload 9, 2) := by decide +kernel
theorem d_M_times_42 : decode b_M_times 42 = .ok (.bipush 16, 2) := by decide +kernel
theorem d_M_times_44 : decode b_M_times 44 = .ok (.if_icmp .ge 57, 3) := by decide +kernel
theorem d_M_times_47 : decode b_M_times 47 = .ok (.lload 7, 2) := by decide +kernel
theorem d_M_times_49 : decode b_M_times 49 = .ok (.aload_n 0, 1) := by decide +kernel
theorem d_M_times_50 : decode b_M_times 50 = .ok (.getfield 123, 3) := by decide +kernel
theorem d_M_times_53 : decode b_M_times 53 = .ok (.iload 6, 2) := by decide +kernel
theorem d_M_times_55 : decode b_M_times 55 = .ok (.iload 9, 2) := by decide +kernel
theorem d_M_times_57 : decode b_M_times 57 = .ok (.iadd, 1) := by decide +kernel
theorem d_M_times_58 : decode b_M_times 58 = .ok (.laload, 1) := by decide +kernel
theorem d_M_times_59 : decode b_M_times 59 = .ok (.aload_n 2, 1) := by decide +kernel
theorem d_M_times_60 : decode b_M_times 60 = .ok (.iload 6, 2) := by decide +kernel
theorem d_M_times_62 : decode b_M_times 62 = .ok (.laload, 1) := by decide +kernel
theorem d_M_times_63 : decode b_M_times 63 = .ok (.aload_n 3, 1) := by decide +kernel
theorem d_M_times_64 : decode b_M_times 64 = .ok (.iload 9, 2) := by decide +kernel
theorem d_M_times_66 : decode b_M_times 66 = .ok (.laload, 1) := by decide +kernel
theorem d_M_times_67 : decode b_M_times 67 = .ok (.lmul, 1) := by decide +kernel
theorem d_M_times_68 : decode b_M_times 68 = .ok (.ladd, 1) := by decide +kernel
theorem d_M_times_69 : decode b_M_times 69 = .ok (.ladd, 1) := by decide +kernel
theorem d_M_times_70 : decode b_M_times 70 = .ok (.lstore 7, 2) := by decide +kernel
theorem d_M_times_72 : decode b_M_times 72 = .ok (.aload_n 0, 1) := by decide +kernel
theorem d_M_times_73 : decode b_M_times 73 = .ok (.getfield 123, 3) := by decide +kernel
theorem d_M_times_76 : decode b_M_times 76 = .ok (.iload 6, 2) := by decide +kernel
theorem d_M_times_78 : decode b_M_times 78 = .ok (.iload 9, 2) := by decide +kernel
theorem d_M_times_80 : decode b_M_times 80 = .ok (.iadd, 1) := by decide +kernel
theorem d_M_times_81 : decode b_M_times 81 = .ok (.lload 7, 2) := by decide +kernel
theorem d_M_times_83 : decode b_M_times 83 = .ok (.ldc2_w 169, 3) := by decide +kernel
theorem d_M_times_86 : decode b_M_times 86 = .ok (.land, 1) := by decide +kernel
theorem d_M_times_87 : decode b_M_times 87 = .ok (.lastore, 1) := by decide +kernel
theorem d_M_times_88 : decode b_M_times 88 = .ok (.lload 7, 2) := by decide +kernel
theorem d_M_times_90 : decode b_M_times 90 = .ok (.bipush 16, 2) := by decide +kernel
theorem d_M_times_92 : decode b_M_times 92 = .ok (.lshr, 1) := by decide +kernel
theorem d_M_times_93 : decode b_M_times 93 = .ok (.lstore 7, 2) := by decide +kernel
theorem d_M_times_95 : decode b_M_times 95 = .ok (.iinc 9 1, 3) := by decide +kernel
theorem d_M_times_98 : decode b_M_times 98 = .ok (.goto (-58), 3) := by decide +kernel
theorem d_M_times_101 : decode b_M_times 101 = .ok (.aload_n 0, 1) := by decide +kernel
theorem d_M_times_102 : decode b_M_times 102 = .ok (.getfield 123, 3) := by decide +kernel
theorem d_M_times_105 : decode b_M_times 105 = .ok (.iload 6, 2) := by decide +kernel
theorem d_M_times_107 : decode b_M_times 107 = .ok (.bipush 16, 2) := by decide +kernel
theorem d_M_times_109 : decode b_M_times 109 = .ok (.iadd, 1) := by decide +kernel
theorem d_M_times_110 : decode b_M_times 110 = .ok (.lload 7, 2) := by decide +kernel
theorem d_M_times_112 : decode b_M_times 112 = .ok (.lastore, 1) := by decide +kernel
theorem d_M_times_113 : decode b_M_times 113 = .ok (.iinc 6 1, 3) := by decide +kernel
theorem d_M_times_116 : decode b_M_times 116 = .ok (.goto (-89), 3) := by decide +kernel
theorem d_M_times_119 : decode b_M_times 119 = .ok (.aload_n 0, 1) := by decide +kernel
theorem d_M_times_120 : decode b_M_times 120 = .ok (.aload_n 1, 1) := by decide +kernel
theorem d_M_times_121 : decode b_M_times 121 = .ok (.aload 4, 2) := by decide +kernel
theorem d_M_times_123 : decode b_M_times 123 = .ok (.aload 5, 2) := by decide +kernel
theorem d_M_times_125 : decode b_M_times 125 = .ok (.invokevirtual 225, 3) := by decide +kernel
theorem d_M_times_128 : decode b_M_times 128 = .ok (.return_, 1) := by decide +kernel
theorem d_M_inverse_0 : decode b_M_inverse 0 = .ok (.aload_n 0, 1) := by decide +kernel
theorem d_M_inverse_1 : decode b_M_inverse 1 = .ok (.getfield 129, 3) := by decide +kernel
theorem d_M_inverse_4 : decode b_M_inverse 4 = .ok (.aload_n 2, 1) := by decide +kernel
theorem d_M_inverse_5 : decode b_M_inverse 5 = .ok (.invokestatic 207, 3) := by decide +kernel
theorem d_M_inverse_8 : decode b_M_inverse 8 = .ok (.aload_n 0, 1) := by decide +kernel
theorem d_M_inverse_9 : decode b_M_inverse 9 = .ok (.getfield 132, 3) := by decide +kernel
theorem d_M_inverse_12 : decode b_M_inverse 12 = .ok (.aload_n 3, 1) := by decide +kernel
theorem d_M_inverse_13 : decode b_M_inverse 13 = .ok (.invokestatic 207, 3) := by decide +kernel
theorem d_M_inverse_16 : decode b_M_inverse 16 = .ok (.aload_n 0, 1) := by decide +kernel
theorem d_M_inverse_17 : decode b_M_inverse 17 = .ok (.getfield 135, 3) := by decide +kernel
theorem d_M_inverse_20 : decode b_M_inverse 20 = .ok (.iconst 1, 1) := by decide +kernel
theorem d_M_inverse_21 : decode b_M_inverse 21 = .ok (.invokestatic 177, 3) := by decide +kernel
theorem d_M_inverse_24 : decode b_M_inverse 24 = .ok (.aload_n 0, 1) := by decide +kernel
theorem d_M_inverse_25 : decode b_M_inverse 25 = .ok (.getfield 138, 3) := by decide +kernel
theorem d_M_inverse_28 : decode b_M_inverse 28 = .ok (.iconst 0, 1) := by decide +kernel
theorem d_M_inverse_29 : decode b_M_inverse 29 = .ok (.invokestatic 177, 3) := by decide +kernel
theorem d_M_inverse_32 : decode b_M_inverse 32 = .ok (.aload_n 0, 1) := by decide +kernel
theorem d_M_inverse_33 : decode b_M_inverse 33 = .ok (.getfield 135, 3) := by decide +kernel
theorem d_M_inverse_36 : decode b_M_inverse 36 = .ok (.bipush 16, 2) := by decide +kernel
theorem d_M_inverse_38 : decode b_M_inverse 38 = .ok (.lconst 0, 1) := by decide +kernel
theorem d_M_inverse_39 : decode b_M_inverse 39 = .ok (.lastore, 1) := by decide +kernel
theorem d_M_inverse_40 : decode b_M_inverse 40 = .ok (.aload_n 0, 1) := by decide +kernel
theorem d_M_inverse_41 : decode b_M_inverse 41 = .ok (.getfield 138, 3) := by decide +kernel
theorem d_M_inverse_44 : decode b_M_inverse 44 = .ok (.bipush 16, 2) := by decide +kernel
theorem d_M_inverse_46 : decode b_M_inverse 46 = .ok (.lconst 0, 1) := by decide +kernel
theorem d_M_inverse_47 : decode b_M_inverse 47 = .ok (.lastore, 1) := by decide +kernel
theorem d_M_inverse_48 : decode b_M_inverse 48 = .ok (.iconst 0, 1) := by decide +kernel
theorem d_M_inverse_49 : decode b_M_inverse 49 = .ok (.istore 4, 2) := by decide +kernel
theorem d_M_inverse_51 : decode b_M_inverse 51 = .ok (.iload 4, 2) := by decide +kernel
theorem d_M_inverse_53 : decode b_M_inverse 53 = .ok (.sipush 1100, 3) := by decide +kernel
theorem d_M_inverse_56 : decode b_M_inverse 56 = .ok (.if_icmp .ge 177, 3) := by decide +kernel
theorem d_M_inverse_59 : decode b_M_inverse 59 = .ok (.aload_n 2, 1) := by decide +kernel
theorem d_M_inverse_60 : decode b_M_inverse 60 = .ok (.invokestatic 228, 3) := by decide +kernel
theorem d_M_inverse_63 : decode b_M_inverse 63 = .ok (.ifCond .ne 170, 3) := by decide +kernel
theorem d_M_inverse_66 : decode b_M_inverse 66 = .ok (.aload_n 0, 1) := by decide +kernel
theorem d_M_inverse_67 : decode b_M_inverse 67 = .ok (.getfield 129, 3) := by decide +kernel
theorem d_M_inverse_70 : decode b_M_inverse 70 = .ok (.invokestatic 232, 3) := by decide +kernel
theorem d_M_inverse_73 : decode b_M_inverse 73 = .ok (.ifCond .ne 160, 3) := by decide +kernel
theorem d_M_inverse_76 : decode b_M_inverse 76 = .ok (.aload_n 0, 1) := by decide +kernel
theorem d_M_inverse_77 : decode b_M_inverse 77 = .ok (.getfield 132, 3) := by decide +kernel
theorem d_M_inverse_80 : decode b_M_inverse 80 = .ok (.invokestatic 232, 3) := by decide +kernel
theorem d_M_inverse_83 : decode b_M_inverse 83 = .ok (.ifCond .ne 150, 3) := by decide +kernel
theorem d_M_inverse_86 : decode b_M_inverse 86 = .ok (.aload_n 0, 1) := by decide +kernel
theorem d_M_inverse_87 : decode b_M_inverse 87 = .ok (.getfield 129, 3) := by decide +kernel
theorem d_M_inverse_90 : decode b_M_inverse 90 = .ok (.iconst 0, 1) := by decide +kernel
theorem d_M_inverse_91 : decode b_M_inverse 91 = .ok (.laload, 1) := by decide +kernel
theorem d_M_inverse_92 : decode b_M_inverse 92 = .ok (.lconst 1, 1) := by decide +kernel
theorem d_M_inverse_93 : decode b_M_inverse 93 = .ok (.land, 1) := by decide +kernel
theorem d_M_inverse_94 : decode b_M_inverse 94 = .ok (.lconst 0, 1) := by decide +kernel
theorem d_M_inverse_95 : decode b_M_inverse 95 = .ok (.lcmp, 1) := by decide +kernel
theorem d_M_inverse_96 : decode b_M_inverse 96 = .ok (.ifCond .ne 21, 3) := by decide +kernel
theorem d_M_inverse_99 : decode b_M_inverse 99 = .ok (.aload_n 0, 1) := by decide +kernel
theorem d_M_inverse_100 : decode b_M_inverse 100 = .ok (.getfield 129, 3) := by decide +kernel
theorem d_M_inverse_103 : decode b_M_inverse 103 = .ok (.invokestatic 234, 3) := by decide +kernel
theorem d_M_inverse_106 : decode b_M_inverse 106 = .ok (.aload_n 0, 1) := by decide +kernel
theorem d_M_inverse_107 : decode b_M_inverse 107 = .ok (.getfield 135, 3) := by decide +kernel
theorem d_M_inverse_110 : decode b_M_inverse 110 = .ok (.aload_n 3, 1) := by decide +kernel
theorem d_M_inverse_111 : decode b_M_inverse 111 = .ok (.invokestatic 238, 3) := by decide +kernel
theorem d_M_inverse_114 : decode b_M_inverse 114 = .ok (.goto 113, 3) := by decide +kernel
theorem d_M_inverse_117 : decode b_M_inverse 117 = .ok (.aload_n 0, 1) := by decide +kernel
theorem d_M_inverse_118 : decode b_M_inverse 118 = .ok (.getfield 132, 3) := by decide +kernel
theorem d_M_inverse_121 : decode b_M_inverse 121 = .ok (.iconst 0, 1) := by decide +kernel
theorem d_M_inverse_122 : decode b_M_inverse 122 = .ok (.laload, 1) := by decide +kernel
theorem d_M_inverse_123 : decode b_M_inverse 123 = .ok (.lconst 1, 1) := by decide +kernel
theorem d_M_inverse_124 : decode b_M_inverse 124 = .ok (.land, 1) := by decide +kernel
theorem d_M_inverse_125 : decode b_M_inverse 125 = .ok (.lconst 0, 1) := by decide +kernel
theorem d_M_inverse_126 : decode b_M_inverse 126 = .ok (.lcmp, 1) := by decide +kernel
theorem d_M_inverse_127 : decode b_M_inverse 127 = .ok (.ifCond .ne 21, 3) := by decide +kernel
theorem d_M_inverse_130 : decode b_M_inverse 130 = .ok (.aload_n 0, 1) := by decide +kernel
theorem d_M_inverse_131 : decode b_M_inverse 131 = .ok (.getfield 132, 3) := by decide +kernel
theorem d_M_inverse_134 : decode b_M_inverse 134 = .ok (.invokestatic 234, 3) := by decide +kernel
theorem d_M_inverse_137 : decode b_M_inverse 137 = .ok (.aload_n 0, 1) := by decide +kernel
theorem d_M_inverse_138 : decode b_M_inverse 138 = .ok (.getfield 138, 3) := by decide +kernel
theorem d_M_inverse_141 : decode b_M_inverse 141 = .ok (.aload_n 3, 1) := by decide +kernel
theorem d_M_inverse_142 : decode b_M_inverse 142 = .ok (.invokestatic 238, 3) := by decide +kernel
theorem d_M_inverse_145 : decode b_M_inverse 145 = .ok (.goto 82, 3) := by decide +kernel
theorem d_M_inverse_148 : decode b_M_inverse 148 = .ok (.aload_n 0, 1) := by decide +kernel
theorem d_M_inverse_149 : decode b_M_inverse 149 = .ok (.getfield 129, 3) := by decide +kernel
theorem d_M_inverse_152 : decode b_M_inverse 152 = .ok (.aload_n 0, 1) := by decide +kernel
theorem d_M_inverse_153 : decode b_M_inverse 153 = .ok (.getfield 132, 3) := by decide +kernel
theorem d_M_inverse_156 : decode b_M_inverse 156 = .ok (.invokestatic 215, 3) := by decide +kernel
theorem d_M_inverse_159 : decode b_M_inverse 159 = .ok (.ifCond .eq 37, 3) := by decide +kernel
theorem d_M_inverse_162 : decode b_M_inverse 162 = .ok (.aload_n 0, 1) := by decide +kernel
theorem d_M_inverse_163 : decode b_M_inverse 163 = .ok (.getfield 132, 3) := by decide +kernel
theorem d_M_inverse_166 : decode b_M_inverse 166 = .ok (.aload_n 0, 1) := by decide +kernel
theorem d_M_inverse_167 : decode b_M_inverse 167 = .ok (.getfield 132, 3) := by decide +kernel
theorem d_M_inverse_170 : decode b_M_inverse 170 = .ok (.aload_n 0, 1) := by decide +kernel
theorem d_M_inverse_171 : decode b_M_inverse 171 = .ok (.getfield 129, 3) := by decide +kernel
theorem d_M_inverse_174 : decode b_M_inverse 174 = .ok (.invokestatic 219, 3) := by decide +kernel
theorem d_M_inverse_177 : decode b_M_inverse 177 = .ok (.aload_n 0, 1) := by decide +kernel
theorem d_M_inverse_178 : decode b_M_inverse 178 = .ok (.getfield 138, 3) := by decide +kernel
theorem d_M_inverse_181 : decode b_M_inverse 181 = .ok (.aload_n 0, 1) := by decide +kernel
theorem d_M_inverse_182 : decode b_M_inverse 182 = .ok (.getfield 138, 3) := by decide +kernel
theorem d_M_inverse_185 : decode b_M_inverse 185 = .ok (.aload_n 0, 1) := by decide +kernel
theorem d_M_inverse_186 : decode b_M_inverse 186 = .ok (.getfield 135, 3) := by decide +kernel
theorem d_M_inverse_189 : decode b_M_inverse 189 = .ok (.aload_n 3, 1) := by decide +kernel
theorem d_M_inverse_190 : decode b_M_inverse 190 = .ok (.invokestatic 192, 3) := by decide +kernel
theorem d_M_inverse_193 : decode b_M_inverse 193 = .ok (.goto 34, 3) := by decide +kernel
theorem d_M_inverse_196 : decode b_M_inverse 196 = .ok (.aload_n 0, 1) := by decide +kernel
theorem d_M_inverse_197 : decode b_M_inverse 197 = .ok (.getfield 129, 3) := by decide +kernel
theorem d_M_inverse_200 : decode b_M_inverse 200 = .ok (.aload_n 0, 1) := by decide +kernel
theorem d_M_inverse_201 : decode b_M_inverse 201 = .ok (.getfield 129, 3) := by decide +kernel
theorem d_M_inverse_204 : decode b_M_inverse 204 = .ok (.aload_n 0, 1) := by decide +kernel
theorem d_M_inverse_205 : decode b_M_inverse 205 = .ok (.getfield 132, 3) := by decide +kernel
theorem d_M_inverse_208 : decode b_M_inverse 208 = .ok (.invokestatic 219, 3) := by decide +kernel
theorem d_M_inverse_211 : decode b_M_inverse 211 = .ok (.aload_n 0, 1) := by decide +kernel
theorem d_M_inverse_212 : decode b_M_inverse 212 = .ok (.getfield 135, 3) := by decide +kernel
theorem d_M_inverse_215 : decode b_M_inverse 215 = .ok (.aload_n 0, 1) := by decide +kernel
theorem d_M_inverse_216 : decode b_M_inverse 216 = .ok (.getfield 135, 3) := by decide +kernel
theorem d_M_inverse_219 : decode b_M_inverse 219 = .ok (.aload_n 0, 1) := by decide +kernel
theorem d_M_inverse_220 : decode b_M_inverse 220 = .ok (.getfield 138, 3) := by decide +kernel
theorem d_M_inverse_223 : decode b_M_inverse 223 = .ok (.aload_n 3, 1) := by decide +kernel
theorem d_M_inverse_224 : decode b_M_inverse 224 = .ok (.invokestatic 192, 3) := by decide +kernel
theorem d_M_inverse_227 : decode b_M_inverse 227 = .ok (.iinc 4 1, 3) := by decide +kernel
theorem d_M_inverse_230 : decode b_M_inverse 230 = .ok (.goto (-179), 3) := by decide +kernel
theorem d_M_inverse_233 : decode b_M_inverse 233 = .ok (.aload_n 2, 1) := by decide +kernel
theorem d_M_inverse_234 : decode b_M_inverse 234 = .ok (.invokestatic 228, 3) := by decide +kernel
theorem d_M_inverse_237 : decode b_M_inverse 237 = .ok (.ifCond .eq 11, 3) := by decide +kernel
theorem d_M_inverse_240 : decode b_M_inverse 240 = .ok (.aload_n 1, 1) := by decide +kernel
theorem d_M_inverse_241 : decode b_M_inverse 241 = .ok (.iconst 0, 1) := by decide +kernel
theorem d_M_inverse_242 : decode b_M_inverse 242 = .ok (.invokestatic 177, 3) := by decide +kernel
theorem d_M_inverse_245 : decode b_M_inverse 245 = .ok (.goto 28, 3) := by decide +kernel
theorem d_M_inverse_248 : decode b_M_inverse 248 = .ok (.aload_n 1, 1) := by decide +kernel
theorem d_M_inverse_249 : decode b_M_inverse 249 = .ok (.aload_n 0, 1) := by decide +kernel
theorem d_M_inverse_250 : decode b_M_inverse 250 = .ok (.getfield 129, 3) := by decide +kernel
theorem d_M_inverse_253 : decode b_M_inverse 253 = .ok (.invokestatic 232, 3) := by decide +kernel
theorem d_M_inverse_256 : decode b_M_inverse 256 = .ok (.ifCond .eq 10, 3) := by decide +kernel
theorem d_M_inverse_259 : decode b_M_inverse 259 = .ok (.aload_n 0, 1) := by decide +kernel
theorem d_M_inverse_260 : decode b_M_inverse 260 = .ok (.getfield 135, 3) := by decide +kernel
theorem d_M_inverse_263 : decode b_M_inverse 263 = .ok (.goto 7, 3) := by decide +kernel
theorem d_M_inverse_266 : decode b_M_inverse 266 = .ok (.aload_n 0, 1) := by decide +kernel
theorem d_M_inverse_267 : decode b_M_inverse 267 = .ok (.getfield 138, 3) := by decide +kernel
theorem d_M_inverse_270 : decode b_M_inverse 270 = .ok (.invokestatic 207, 3) := by decide +kernel
theorem d_M_inverse_273 : decode b_M_inverse 273 = .ok (.return_, 1) := by decide +kernel
theorem d_M_power_0 : decode b_M_power 0 = .ok (.aload_n 0, 1) := by decide +kernel
theorem d_M_power_1 : decode b_M_power 1 = .ok (.getfield 82, 3) := by decide +kernel
theorem d_M_power_4 : decode b_M_power 4 = .ok (.iconst 1, 1) := by decide +kernel
theorem d_M_power_5 : decode b_M_power 5 = .ok (.invokestatic 177, 3) := by decide +kernel
theorem d_M_power_8 : decode b_M_power 8 = .ok (.sipush 255, 3) := by decide +kernel
theorem d_M_power_11 : decode b_M_power 11 = .ok (.istore 4, 2) := by decide +kernel
theorem d_M_power_13 : decode b_M_power 13 = .ok (.iload 4, 2) := by decide +kernel
theorem d_M_power_15 : decode b_M_power 15 = .ok (.ifCond .lt 64, 3) := by decide +kernel
theorem d_M_power_18 : decode b_M_power 18 = .ok (.aload_n 0, 1) := by decide +kernel
theorem d_M_power_19 : decode b_M_power 19 = .ok (.aload_n 0, 1) := by decide +kernel
theorem d_M_power_20 : decode b_M_power 20 = .ok (.getfield 82, 3) := by decide +kernel
theorem d_M_power_23 : decode b_M_power 23 = .ok (.aload_n 0, 1) := by decide +kernel
theorem d_M_power_24 : decode b_M_power 24 = .ok (.getfield 82, 3) := by decide +kernel
theorem d_M_power_27 : decode b_M_power 27 = .ok (.aload_n 0, 1) := by decide +kernel
theorem d_M_power_28 : decode b_M_power 28 = .ok (.getfield 82, 3) := by decide +kernel
theorem d_M_power_31 : decode b_M_power 31 = .ok (.aload_n 0, 1) := by decide +kernel
theorem d_M_power_32 : decode b_M_power 32 = .ok (.getfield 27, 3) := by decide +kernel
theorem d_M_power_35 : decode b_M_power 35 = .ok (.aload_n 0, 1) := by decide +kernel
theorem d_M_power_36 : decode b_M_power 36 = .ok (.getfield 31, 3) := by decide +kernel
theorem d_M_power_39 : decode b_M_power 39 = .ok (.invokevirtual 188, 3) := by decide +kernel
theorem d_M_power_42 : decode b_M_power 42 = .ok (.aload_n 3, 1) := by decide +kernel
theorem d_M_power_43 : decode b_M_power 43 = .ok (.iload 4, 2) := by decide +kernel
theorem d_M_power_45 : decode b_M_power 45 = .ok (.invokestatic 273, 3) := by decide +kernel
theorem d_M_power_48 : decode b_M_power 48 = .ok (.iconst 1, 1) := by decide +kernel
theorem d_M_power_49 : decode b_M_power 49 = .ok (.if_icmp .ne 24, 3) := by decide +kernel
theorem d_M_power_52 : decode b_M_power 52 = .ok (.aload_n 0, 1) := by decide +kernel
theorem d_M_power_53 : decode b_M_power 53 = .ok (.aload_n 0, 1) := by decide +kernel
theorem d_M_power_54 : decode b_M_power 54 = .ok (.getfield 82, 3) := by decide +kernel
theorem d_M_power_57 : decode b_M_power 57 = .ok (.aload_n 0, 1) := by decide +kernel
theorem d_M_power_58 : decode b_M_power 58 = .ok (.getfield 82, 3) := by decide +kernel
theorem d_M_power_61 : decode b_M_power 61 = .ok (.aload_n 2, 1) := by decide +kernel
theorem d_M_power_62 : decode b_M_power 62 = .ok (.aload_n 0, 1) := by decide +kernel
theorem d_M_power_63 : decode b_M_power 63 = .ok (.getfield 27, 3) := by decide +kernel
theorem d_M_power_66 : decode b_M_power 66 = .ok (.aload_n 0, 1) := by decide +kernel
theorem d_M_power_67 : decode b_M_power 67 = .ok (.getfield 31, 3) := by decide +kernel
theorem d_M_power_70 : decode b_M_power 70 = .ok (.invokevirtual 188, 3) := by decide +kernel
theorem d_M_power_73 : decode b_M_power 73 = .ok (.iinc 4 (-1), 3) := by decide +kernel
theorem d_M_power_76 : decode b_M_power 76 = .ok (.goto (-63), 3) := by decide +kernel
theorem d_M_power_79 : decode b_M_power 79 = .ok (.aload_n 1, 1) := by decide +kernel
theorem d_M_power_80 : decode b_M_power 80 = .ok (.aload_n 0, 1) := by decide +kernel
theorem d_M_power_81 : decode b_M_power 81 = .ok (.getfield 82, 3) := by decide +kernel
theorem d_M_power_84 : decode b_M_power 84 = .ok (.invokestatic 207, 3) := by decide +kernel
theorem d_M_power_87 : decode b_M_power 87 = .ok (.return_, 1) := by decide +kernel
