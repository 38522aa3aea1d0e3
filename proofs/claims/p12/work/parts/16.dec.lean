theorem d_M_padded_0 : decode b_M_padded 0 = .ok (.iload_n 2, 1) := by decide +kernel
theorem d_M_padded_1 : decode b_M_padded 1 = .ok (.iload_n 1, 1) := by decide +kernel
theorem d_M_padded_2 : decode b_M_padded 2 = .ok (.if_icmp .ge 11, 3) := by decide +kernel
theorem d_M_padded_5 : decode b_M_padded 5 = .ok (.aload_n 0, 1) := by decide +kernel
theorem d_M_padded_6 : decode b_M_padded 6 = .ok (.iload_n 2, 1) := by decide +kernel
theorem d_M_padded_7 : decode b_M_padded 7 = .ok (.baload, 1) := by decide +kernel
theorem d_M_padded_8 : decode b_M_padded 8 = .ok (.sipush 255, 3) := by decide +kernel
theorem d_M_padded_11 : decode b_M_padded 11 = .ok (.iand, 1) := by decide +kernel
theorem d_M_padded_12 : decode b_M_padded 12 = .ok (.ireturn, 1) := by decide +kernel
theorem d_M_padded_13 : decode b_M_padded 13 = .ok (.iload_n 2, 1) := by decide +kernel
theorem d_M_padded_14 : decode b_M_padded 14 = .ok (.iload_n 1, 1) := by decide +kernel
theorem d_M_padded_15 : decode b_M_padded 15 = .ok (.if_icmp .ne 7, 3) := by decide +kernel
theorem d_M_padded_18 : decode b_M_padded 18 = .ok (.sipush 128, 3) := by decide +kernel
theorem d_M_padded_21 : decode b_M_padded 21 = .ok (.ireturn, 1) := by decide +kernel
theorem d_M_padded_22 : decode b_M_padded 22 = .ok (.iload_n 2, 1) := by decide +kernel
theorem d_M_padded_23 : decode b_M_padded 23 = .ok (.iload_n 3, 1) := by decide +kernel
theorem d_M_padded_24 : decode b_M_padded 24 = .ok (.bipush 8, 2) := by decide +kernel
theorem d_M_padded_26 : decode b_M_padded 26 = .ok (.isub, 1) := by decide +kernel
theorem d_M_padded_27 : decode b_M_padded 27 = .ok (.if_icmp .ge 7, 3) := by decide +kernel
theorem d_M_padded_30 : decode b_M_padded 30 = .ok (.iconst 0, 1) := by decide +kernel
theorem d_M_padded_31 : decode b_M_padded 31 = .ok (.goto 23, 3) := by decide +kernel
theorem d_M_padded_34 : decode b_M_padded 34 = .ok (.ldc2_w 258, 3) := by decide +kernel
theorem d_M_padded_37 : decode b_M_padded 37 = .ok (.iload_n 1, 1) := by decide +kernel
theorem d_M_padded_38 : decode b_M_padded 38 = .ok (.i2l, 1) := by decide +kernel
theorem d_M_padded_39 : decode b_M_padded 39 = .ok (.lmul, 1) := by decide +kernel
theorem d_M_padded_40 : decode b_M_padded 40 = .ok (.bipush 8, 2) := by decide +kernel
theorem d_M_padded_42 : decode b_M_padded 42 = .ok (.iload_n 3, 1) := by decide +kernel
theorem d_M_padded_43 : decode b_M_padded 43 = .ok (.iconst 1, 1) := by decide +kernel
theorem d_M_padded_44 : decode b_M_padded 44 = .ok (.isub, 1) := by decide +kernel
theorem d_M_padded_45 : decode b_M_padded 45 = .ok (.iload_n 2, 1) := by decide +kernel
theorem d_M_padded_46 : decode b_M_padded 46 = .ok (.isub, 1) := by decide +kernel
theorem d_M_padded_47 : decode b_M_padded 47 = .ok (.imul, 1) := by decide +kernel
theorem d_M_padded_48 : decode b_M_padded 48 = .ok (.lushr, 1) := by decide +kernel
theorem d_M_padded_49 : decode b_M_padded 49 = .ok (.l2i, 1) := by decide +kernel
theorem d_M_padded_50 : decode b_M_padded 50 = .ok (.sipush 255, 3) := by decide +kernel
theorem d_M_padded_53 : decode b_M_padded 53 = .ok (.iand, 1) := by decide +kernel
theorem d_M_padded_54 : decode b_M_padded 54 = .ok (.ireturn, 1) := by decide +kernel
theorem d_M_over_0 : decode b_M_over 0 = .ok (.bipush 16, 2) := by decide +kernel
theorem d_M_over_2 : decode b_M_over 2 = .ok (.istore_n 1, 1) := by decide +kernel
theorem d_M_over_3 : decode b_M_over 3 = .ok (.iload_n 1, 1) := by decide +kernel
theorem d_M_over_4 : decode b_M_over 4 = .ok (.bipush 80, 2) := by decide +kernel
theorem d_M_over_6 : decode b_M_over 6 = .ok (.if_icmp .ge 94, 3) := by decide +kernel
theorem d_M_over_9 : decode b_M_over 9 = .ok (.aload_n 0, 1) := by decide +kernel
theorem d_M_over_10 : decode b_M_over 10 = .ok (.getfield 147, 3) := by decide +kernel
theorem d_M_over_13 : decode b_M_over 13 = .ok (.iload_n 1, 1) := by decide +kernel
theorem d_M_over_14 : decode b_M_over 14 = .ok (.bipush 15, 2) := by decide +kernel
theorem d_M_over_16 : decode b_M_over 16 = .ok (.isub, 1) := by decide +kernel
theorem d_M_over_17 : decode b_M_over 17 = .ok (.laload, 1) := by decide +kernel
theorem d_M_over_18 : decode b_M_over 18 = .ok (.lstore_n 2, 1) := by decide +kernel
theorem d_M_over_19 : decode b_M_over 19 = .ok (.aload_n 0, 1) := by decide +kernel
theorem d_M_over_20 : decode b_M_over 20 = .ok (.getfield 147, 3) := by decide +kernel
theorem d_M_over_23 : decode b_M_over 23 = .ok (.iload_n 1, 1) := by decide +kernel
theorem d_M_over_24 : decode b_M_over 24 = .ok (.iconst 2, 1) := by decide +kernel
theorem d_M_over_25 : decode b_M_over 25 = .ok (.isub, 1) := by decide +kernel
theorem d_M_over_26 : decode b_M_over 26 = .ok (.laload, 1) := by decide +kernel
theorem d_M_over_27 : decode b_M_over 27 = .ok (.lstore 4, 2) := by decide +kernel
theorem d_M_over_29 : decode b_M_over 29 = .ok (.aload_n 0, 1) := by decide +kernel
theorem d_M_over_30 : decode b_M_over 30 = .ok (.getfield 147, 3) := by decide +kernel
theorem d_M_over_33 : decode b_M_over 33 = .ok (.iload_n 1, 1) := by decide +kernel
theorem d_M_over_34 : decode b_M_over 34 = .ok (.aload_n 0, 1) := by decide +kernel
theorem d_M_over_35 : decode b_M_over 35 = .ok (.getfield 147, 3) := by decide +kernel
theorem d_M_over_38 : decode b_M_over 38 = .ok (.iload_n 1, 1) := by decide +kernel
theorem d_M_over_39 : decode b_M_over 39 = .ok (.bipush 16, 2) := by decide +kernel
theorem d_M_over_41 : decode b_M_over 41 = .ok (.isub, 1) := by decide +kernel
theorem d_M_over_42 : decode b_M_over 42 = .ok (.laload, 1) := by decide +kernel
theorem d_M_over_43 : decode b_M_over 43 = .ok (.lload_n 2, 1) := by decide +kernel
theorem d_M_over_44 : decode b_M_over 44 = .ok (.iconst 1, 1) := by decide +kernel
theorem d_M_over_45 : decode b_M_over 45 = .ok (.invokestatic 267, 3) := by decide +kernel
theorem d_M_over_48 : decode b_M_over 48 = .ok (.lload_n 2, 1) := by decide +kernel
theorem d_M_over_49 : decode b_M_over 49 = .ok (.bipush 8, 2) := by decide +kernel
theorem d_M_over_51 : decode b_M_over 51 = .ok (.invokestatic 267, 3) := by decide +kernel
theorem d_M_over_54 : decode b_M_over 54 = .ok (.lxor, 1) := by decide +kernel
theorem d_M_over_55 : decode b_M_over 55 = .ok (.lload_n 2, 1) := by decide +kernel
theorem d_M_over_56 : decode b_M_over 56 = .ok (.bipush 7, 2) := by decide +kernel
theorem d_M_over_58 : decode b_M_over 58 = .ok (.lushr, 1) := by decide +kernel
theorem d_M_over_59 : decode b_M_over 59 = .ok (.lxor, 1) := by decide +kernel
theorem d_M_over_60 : decode b_M_over 60 = .ok (.ladd, 1) := by decide +kernel
theorem d_M_over_61 : decode b_M_over 61 = .ok (.aload_n 0, 1) := by decide +kernel
theorem d_M_over_62 : decode b_M_over 62 = .ok (.getfield 147, 3) := by decide +kernel
theorem d_M_over_65 : decode b_M_over 65 = .ok (.iload_n 1, 1) := by decide +kernel
theorem d_M_over_66 : decode b_M_over 66 = .ok (.bipush 7, 2) := by decide +kernel
theorem d_M_over_68 : decode b_M_over 68 = .ok (.isub, 1) := by decide +kernel
theorem d_M_over_69 : decode b_M_over 69 = .ok (.laload, 1) := by decide +kernel
theorem d_M_over_70 : decode b_M_over 70 = .ok (.ladd, 1) := by decide +kernel
theorem d_M_over_71 : decode b_M_over 71 = .ok (.lload 4, 2) := by decide +kernel
theorem d_M_over_73 : decode b_M_over 73 = .ok (.bipush 19, 2) := by decide +kernel
theorem d_M_over_75 : decode b_M_over 75 = .ok (.invokestatic 267, 3) := by decide +kernel
theorem d_M_over_78 : decode b_M_over 78 = .ok (.lload 4, 2) := by decide +kernel
theorem d_M_over_80 : decode b_M_over 80 = .ok (.bipush 61, 2) := by decide +kernel
theorem d_M_over_82 : decode b_M_over 82 = .ok (.invokestatic 267, 3) := by decide +kernel
theorem d_M_over_85 : decode b_M_over 85 = .ok (.lxor, 1) := by decide +kernel
theorem d_M_over_86 : decode b_M_over 86 = .ok (.lload 4, 2) := by decide +kernel
theorem d_M_over_88 : decode b_M_over 88 = .ok (.bipush 6, 2) := by decide +kernel
theorem d_M_over_90 : decode b_M_over 90 = .ok (.lushr, 1) := by decide +kernel
theorem d_M_over_91 : decode b_M_over 91 = .ok (.lxor, 1) := by decide +kernel
theorem d_M_over_92 : decode b_M_over 92 = .ok (.ladd, 1) := by decide +kernel
theorem d_M_over_93 : decode b_M_over 93 = .ok (.lastore, 1) := by decide +kernel
theorem d_M_over_94 : decode b_M_over 94 = .ok (.iinc 1 1, 3) := by decide +kernel
theorem d_M_over_97 : decode b_M_over 97 = .ok (.goto (-94), 3) := by decide +kernel
theorem d_M_over_100 : decode b_M_over 100 = .ok (.aload_n 0, 1) := by decide +kernel
theorem d_M_over_101 : decode b_M_over 101 = .ok (.getfield 150, 3) := by decide +kernel
theorem d_M_over_104 : decode b_M_over 104 = .ok (.iconst 0, 1) := by decide +kernel
theorem d_M_over_105 : decode b_M_over 105 = .ok (.laload, 1) := by decide +kernel
theorem d_M_over_106 : decode b_M_over 106 = .ok (.lstore_n 1, 1) := by decide +kernel
theorem d_M_over_107 : decode b_M_over 107 = .ok (.aload_n 0, 1) := by decide +kernel
theorem d_M_over_108 : decode b_M_over 108 = .ok (.getfield 150, 3) := by decide +kernel
theorem d_M_over_111 : decode b_M_over 111 = .ok (.iconst 1, 1) := by decide +kernel
theorem d_M_over_112 : decode b_M_over 112 = .ok (.laload, 1) := by decide +kernel
theorem d_M_over_113 : decode b_M_over 113 = .ok (.lstore_n 3, 1) := by decide +kernel
theorem d_M_over_114 : decode b_M_over 114 = .ok (.aload_n 0, 1) := by decide +kernel
theorem d_M_over_115 : decode b_M_over 115 = .ok (.getfield 150, 3) := by decide +kernel
theorem d_M_over_118 : decode b_M_over 118 = .ok (.iconst 2, 1) := by decide +kernel
theorem d_M_over_119 : decode b_M_over 119 = .ok (.laload, 1) := by decide +kernel
theorem d_M_over_120 : decode b_M_over 120 = .ok (.lstore 5, 2) := by decide +kernel
theorem d_M_over_122 : decode b_M_over 122 = .ok (.aload_n 0, 1) := by decide +kernel
theorem d_M_over_123 : decode b_M_over 123 = .ok (.getfield 150, 3) := by decide +kernel
theorem d_M_over_126 : decode b_M_over 126 = .ok (.iconst 3, 1) := by decide +kernel
theorem d_M_over_127 : decode b_M_over 127 = .ok (.laload, 1) := by decide +kernel
theorem d_M_over_128 : decode b_M_over 128 = .ok (.lstore 7, 2) := by decide +kernel
theorem d_M_over_130 : decode b_M_over 130 = .ok (.aload_n 0, 1) := by decide +kernel
theorem d_M_over_131 : decode b_M_over 131 = .ok (.getfield 150, 3) := by decide +kernel
theorem d_M_over_134 : decode b_M_over 134 = .ok (.iconst 4, 1) := by decide +kernel
theorem d_M_over_135 : decode b_M_over 135 = .ok (.laload, 1) := by decide +kernel
theorem d_M_over_136 : decode b_M_over 136 = .ok (.lstore 9, 2) := by decide +kernel
theorem d_M_over_138 : decode b_M_over 138 = .ok (.aload_n 0, 1) := by decide +kernel
theorem d_M_over_139 : decode b_M_over 139 = .ok (.getfield 150, 3) := by decide +kernel
theorem d_M_over_142 : decode b_M_over 142 = .ok (.iconst 5, 1) := by decide +kernel
theorem d_M_over_143 : decode b_M_over 143 = .ok (.laload, 1) := by decide +kernel
theorem d_M_over_144 : decode b_M_over 144 = .ok (.lstore 11, 2) := by decide +kernel
theorem d_M_over_146 : decode b_M_over 146 = .ok (.aload_n 0, 1) := by decide +kernel
theorem d_M_over_147 : decode b_M_over 147 = .ok (.getfield 150, 3) := by decide +kernel
theorem d_M_over_150 : decode b_M_over 150 = .ok (.bipush 6, 2) := by decide +kernel
theorem d_M_over_152 : decode b_M_over 152 = .ok (.laload, 1) := by decide +kernel
theorem d_M_over_153 : decode b_M_over 153 = .ok (.lstore 13, 2) := by decide +kernel
theorem d_M_over_155 : decode b_M_over 155 = .ok (.aload_n 0, 1) := by decide +kernel
theorem d_M_over_156 : decode b_M_over 156 = .ok (.getfield 150, 3) := by decide +kernel
theorem d_M_over_159 : decode b_M_over 159 = .ok (.bipush 7, 2) := by decide +kernel
theorem d_M_over_161 : decode b_M_over 161 = .ok (.laload, 1) := by decide +kernel
theorem d_M_over_162 : decode b_M_over 162 = .ok (.lstore 15, 2) := by decide +kernel
theorem d_M_over_164 : decode b_M_over 164 = .ok (.iconst 0, 1) := by decide +kernel
theorem d_M_over_165 : decode b_M_over 165 = .ok (.istore 17, 2) := by decide +kernel
theorem d_M_over_167 : decode b_M_over 167 = .ok (.iload 17, 2) := by decide +kernel
theorem d_M_over_169 : decode b_M_over 169 = .ok (.bipush 80, 2) := by decide +kernel
theorem d_M_over_171 : decode b_M_over 171 = .ok (.if_icmp .ge 139, 3) := by decide +kernel
theorem d_M_over_174 : decode b_M_over 174 = .ok (.lload 15, 2) := by decide +kernel
theorem d_M_over_176 : decode b_M_over 176 = .ok (.lload 9, 2) := by decide +kernel
theorem d_M_over_178 : decode b_M_over 178 = .ok (.bipush 14, 2) := by decide +kernel
theorem d_M_over_180 : decode b_M_over 180 = .ok (.invokestatic 267, 3) := by decide +kernel
theorem d_M_over_183 : decode b_M_over 183 = .ok (.lload 9, 2) := by decide +kernel
theorem d_M_over_185 : decode b_M_over 185 = .ok (.bipush 18, 2) := by decide +kernel
theorem d_M_over_187 : decode b_M_over 187 = .ok (.invokestatic 267, 3) := by decide +kernel
theorem d_M_over_190 : decode b_M_over 190 = .ok (.lxor, 1) := by decide +kernel
theorem d_M_over_191 : decode b_M_over 191 = .ok (.lload 9, 2) := by decide +kernel
theorem d_M_over_193 : decode b_M_over 193 = .ok (.bipush 41, 2) := by decide +kernel
theorem d_M_over_195 : decode b_M_over 195 = .ok (.invokestatic 267, 3) := by decide +kernel
theorem d_M_over_198 : decode b_M_over 198 = .ok (.lxor, 1) := by decide +kernel
theorem d_M_over_199 : decode b_M_over 199 = .ok (.ladd, 1) := by decide +kernel
theorem d_M_over_200 : decode b_M_over 200 = .ok (.lload 9, 2) := by decide +kernel
theorem d_M_over_202 : decode b_M_over 202 = .ok (.lload 11, 2) := by decide +kernel
theorem d_M_over_204 : decode b_M_over 204 = .ok (.land, 1) := by decide +kernel
theorem d_M_over_205 : decode b_M_over 205 = .ok (.lload 9, 2) := by decide +kernel
theorem d_M_over_207 : decode b_M_over 207 = .ok (.ldc2_w 271, 3) := by decide +kernel
theorem d_M_over_210 : decode b_M_over 210 = .ok (.lxor, 1) := by decide +kernel
theorem d_M_over_211 : decode b_M_over 211 = .ok (.lload 13, 2) := by decide +kernel
theorem d_M_over_213 : decode b_M_over 213 = .ok (.land, 1) := by decide +kernel
theorem d_M_over_214 : decode b_M_over 214 = .ok (.lxor, 1) := by decide +kernel
theorem d_M_over_215 : decode b_M_over 215 = .ok (.ladd, 1) := by decide +kernel
theorem d_M_over_216 : decode b_M_over 216 = .ok (.aload_n 0, 1) := by decide +kernel
theorem d_M_over_217 : decode b_M_over 217 = .ok (.getfield 141, 3) := by decide +kernel
theorem d_M_over_220 : decode b_M_over 220 = .ok (.iload 17, 2) := by decide +kernel
theorem d_M_over_222 : decode b_M_over 222 = .ok (.laload, 1) := by decide +kernel
theorem d_M_over_223 : decode b_M_over 223 = .ok (.ladd, 1) := by decide +kernel
theorem d_M_over_224 : decode b_M_over 224 = .ok (.aload_n 0, 1) := by decide +kernel
theorem d_M_over_225 : decode b_M_over 225 = .ok (.getfield 147, 3) := by decide +kernel
theorem d_M_over_228 : decode b_M_over 228 = .ok (.iload 17, 2) := by decide +kernel
theorem d_M_over_230 : decode b_M_over 230 = .ok (.laload, 1) := by decide +kernel
theorem d_M_over_231 : decode b_M_over 231 = .ok (.ladd, 1) := by decide +kernel
theorem d_M_over_232 : decode b_M_over 232 = .ok (.lstore 18, 2) := by decide +kernel
theorem d_M_over_234 : decode b_M_over 234 = .ok (.lload_n 1, 1) := by decide +kernel
theorem d_M_over_235 : decode b_M_over 235 = .ok (.bipush 28, 2) := by decide +kernel
theorem d_M_over_237 : decode b_M_over 237 = .ok (.invokestatic 267, 3) := by decide +kernel
theorem d_M_over_240 : decode b_M_over 240 = .ok (.lload_n 1, 1) := by decide +kernel
theorem d_M_over_241 : decode b_M_over 241 = .ok (.bipush 34, 2) := by decide +kernel
theorem d_M_over_243 : decode b_M_over 243 = .ok (.invokestatic 267, 3) := by decide +kernel
theorem d_M_over_246 : decode b_M_over 246 = .ok (.lxor, 1) := by decide +kernel
theorem d_M_over_247 : decode b_M_over 247 = .ok (.lload_n 1, 1) := by decide +kernel
theorem d_M_over_248 : decode b_M_over 248 = .ok (.bipush 39, 2) := by decide +kernel
theorem d_M_over_250 : decode b_M_over 250 = .ok (.invokestatic 267, 3) := by decide +kernel
theorem d_M_over_253 : decode b_M_over 253 = .ok (.lxor, 1) := by decide +kernel
theorem d_M_over_254 : decode b_M_over 254 = .ok (.lload_n 1, 1) := by decide +kernel
theorem d_M_over_255 : decode b_M_over 255 = .ok (.lload_n 3, 1) := by decide +kernel
theorem d_M_over_256 : decode b_M_over 256 = .ok (.land, 1) := by decide +kernel
theorem d_M_over_257 : decode b_M_over 257 = .ok (.lload_n 1, 1) := by decide +kernel
theorem d_M_over_258 : decode b_M_over 258 = .ok (.lload 5, 2) := by decide +kernel
theorem d_M_over_260 : decode b_M_over 260 = .ok (.land, 1) := by decide +kernel
theorem d_M_over_261 : decode b_M_over 261 = .ok (.lxor, 1) := by decide +kernel
theorem d_M_over_262 : decode b_M_over 262 = .ok (.lload_n 3, 1) := by decide +kernel
theorem d_M_over_263 : decode b_M_over 263 = .ok (.lload 5, 2) := by decide +kernel
theorem d_M_over_265 : decode b_M_over 265 = .ok (.land, 1) := by decide +kernel
theorem d_M_over_266 : decode b_M_over 266 = .ok (.lxor, 1) := by decide +kernel
theorem d_M_over_267 : decode b_M_over 267 = .ok (.ladd, 1) := by decide +kernel
theorem d_M_over_268 : decode b_M_over 268 = .ok (.lstore 20, 2) := by decide +kernel
theorem d_M_over_270 : decode b_M_over 270 = .ok (.lload 13, 2) := by decide +kernel
theorem d_M_over_272 : decode b_M_over 272 = .ok (.lstore 15, 2) := by decide +kernel
theorem d_M_over_274 : decode b_M_over 274 = .ok (.lload 11, 2) := by decide +kernel
theorem d_M_over_276 : decode b_M_over 276 = .ok (.lstore 13, 2) := by decide +kernel
theorem d_M_over_278 : decode b_M_over 278 = .ok (.lload 9, 2) := by decide +kernel
theorem d_M_over_280 : decode b_M_over 280 = .ok (.lstore 11, 2) := by decide +kernel
theorem d_M_over_282 : decode b_M_over 282 = .ok (.lload 7, 2) := by decide +kernel
theorem d_M_over_284 : decode b_M_over 284 = .ok (.lload 18, 2) := by decide +kernel
theorem d_M_over_286 : decode b_M_over 286 = .ok (.ladd, 1) := by decide +kernel
theorem d_M_over_287 : decode b_M_over 287 = .ok (.lstore 9, 2) := by decide +kernel
theorem d_M_over_289 : decode b_M_over 289 = .ok (.lload 5, 2) := by decide +kernel
theorem d_M_over_291 : decode b_M_over 291 = .ok (.lstore 7, 2) := by decide +kernel
theorem d_M_over_293 : decode b_M_over 293 = .ok (.lload_n 3, 1) := by decide +kernel
theorem d_M_over_294 : decode b_M_over 294 = .ok (.lstore 5, 2) := by decide +kernel
theorem d_M_over_296 : decode b_M_over 296 = .ok (.lload_n 1, 1) := by decide +kernel
theorem d_M_over_297 : decode b_M_over 297 = .ok (.lstore_n 3, 1) := by decide +kernel
theorem d_M_over_298 : decode b_M_over 298 = .ok (.lload 18, 2) := by decide +kernel
theorem d_M_over_300 : decode b_M_over 300 = .ok (.lload 20, 2) := by decide +kernel
theorem d_M_over_302 : decode b_M_over 302 = .ok (.ladd, 1) := by decide +kernel
theorem d_M_over_303 : decode b_M_over 303 = .ok (.lstore_n 1, 1) := by decide +kernel
theorem d_M_over_304 : decode b_M_over 304 = .ok (.iinc 17 1, 3) := by decide +kernel
theorem d_M_over_307 : decode b_M_over 307 = .ok (.goto (-140), 3) := by decide +kernel
theorem d_M_over_310 : decode b_M_over 310 = .ok (.aload_n 0, 1) := by decide +kernel
theorem d_M_over_311 : decode b_M_over 311 = .ok (.getfield 150, 3) := by decide +kernel
theorem d_M_over_314 : decode b_M_over 314 = .ok (.iconst 0, 1) := by decide +kernel
theorem d_M_over_315 : decode b_M_over 315 = .ok (.dup2, 1) := by decide +kernel
theorem d_M_over_316 : decode b_M_over 316 = .ok (.laload, 1) := by decide +kernel
theorem d_M_over_317 : decode b_M_over 317 = .ok (.lload_n 1, 1) := by decide +kernel
theorem d_M_over_318 : decode b_M_over 318 = .ok (.ladd, 1) := by decide +kernel
theorem d_M_over_319 : decode b_M_over 319 = .ok (.lastore, 1) := by decide +kernel
theorem d_M_over_320 : decode b_M_over 320 = .ok (.aload_n 0, 1) := by decide +kernel
theorem d_M_over_321 : decode b_M_over 321 = .ok (.getfield 150, 3) := by decide +kernel
theorem d_M_over_324 : decode b_M_over 324 = .ok (.iconst 1, 1) := by decide +kernel
theorem d_M_over_325 : decode b_M_over 325 = .ok (.dup2, 1) := by decide +kernel
theorem d_M_over_326 : decode b_M_over 326 = .ok (.laload, 1) := by decide +kernel
theorem d_M_over_327 : decode b_M_over 327 = .ok (.lload_n 3, 1) := by decide +kernel
theorem d_M_over_328 : decode b_M_over 328 = .ok (.ladd, 1) := by decide +kernel
theorem d_M_over_329 : decode b_M_over 329 = .ok (.lastore, 1) := by decide +kernel
theorem d_M_over_330 : decode b_M_over 330 = .ok (.aload_n 0, 1) := by decide +kernel
theorem d_M_over_331 : decode b_M_over 331 = .ok (.getfield 150, 3) := by decide +kernel
theorem d_M_over_334 : decode b_M_over 334 = .ok (.iconst 2, 1) := by decide +kernel
theorem d_M_over_335 : decode b_M_over 335 = .ok (.dup2, 1) := by decide +kernel
theorem d_M_over_336 : decode b_M_over 336 = .ok (.laload, 1) := by decide +kernel
theorem d_M_over_337 : decode b_M_over 337 = .ok (.lload 5, 2) := by decide +kernel
theorem d_M_over_339 : decode b_M_over 339 = .ok (.ladd, 1) := by decide +kernel
theorem d_M_over_340 : decode b_M_over 340 = .ok (.lastore, 1) := by decide +kernel
theorem d_M_over_341 : decode b_M_over 341 = .ok (.aload_n 0, 1) := by decide +kernel
theorem d_M_over_342 : decode b_M_over 342 = .ok (.getfield 150, 3) := by decide +kernel
theorem d_M_over_345 : decode b_M_over 345 = .ok (.iconst 3, 1) := by decide +kernel
theorem d_M_over_346 : decode b_M_over 346 = .ok (.dup2, 1) := by decide +kernel
theorem d_M_over_347 : decode b_M_over 347 = .ok (.laload, 1) := by decide +kernel
theorem d_M_over_348 : decode b_M_over 348 = .ok (.lload 7, 2) := by decide +kernel
theorem d_M_over_350 : decode b_M_over 350 = .ok (.ladd, 1) := by decide +kernel
theorem d_M_over_351 : decode b_M_over 351 = .ok (.lastore, 1) := by decide +kernel
theorem d_M_over_352 : decode b_M_over 352 = .ok (.aload_n 0, 1) := by decide +kernel
theorem d_M_over_353 : decode b_M_over 353 = .ok (.getfield 150, 3) := by decide +kernel
theorem d_M_over_356 : decode b_M_over 356 = .ok (.iconst 4, 1) := by decide +kernel
theorem d_M_over_357 : decode b_M_over 357 = .ok (.dup2, 1) := by decide +kernel
theorem d_M_over_358 : decode b_M_over 358 = .ok (.laload, 1) := by decide +kernel
theorem d_M_over_359 : decode b_M_over 359 = .ok (.lload 9, 2) := by decide +kernel
theorem d_M_over_361 : decode b_M_over 361 = .ok (.ladd, 1) := by decide +kernel
theorem d_M_over_362 : decode b_M_over 362 = .ok (.lastore, 1) := by decide +kernel
theorem d_M_over_363 : decode b_M_over 363 = .ok (.aload_n 0, 1) := by decide +kernel
theorem d_M_over_364 : decode b_M_over 364 = .ok (.getfield 150, 3) := by decide +kernel
theorem d_M_over_367 : decode b_M_over 367 = .ok (.iconst 5, 1) := by decide +kernel
theorem d_M_over_368 : decode b_M_over 368 = .ok (.dup2, 1) := by decide +kernel
theorem d_M_over_369 : decode b_M_over 369 = .ok (.laload, 1) := by decide +kernel
theorem d_M_over_370 : decode b_M_over 370 = .ok (.lload 11, 2) := by decide +kernel
theorem d_M_over_372 : decode b_M_over 372 = .ok (.ladd, 1) := by decide +kernel
theorem d_M_over_373 : decode b_M_over 373 = .ok (.lastore, 1) := by decide +kernel
theorem d_M_over_374 : decode b_M_over 374 = .ok (.aload_n 0, 1) := by decide +kernel
theorem d_M_over_375 : decode b_M_over 375 = .ok (.getfield 150, 3) := by decide +kernel
theorem d_M_over_378 : decode b_M_over 378 = .ok (.bipush 6, 2) := by decide +kernel
theorem d_M_over_380 : decode b_M_over 380 = .ok (.dup2, 1) := by decide +kernel
theorem d_M_over_381 : decode b_M_over 381 = .ok (.laload, 1) := by decide +kernel
theorem d_M_over_382 : decode b_M_over 382 = .ok (.lload 13, 2) := by decide +kernel
theorem d_M_over_384 : decode b_M_over 384 = .ok (.ladd, 1) := by decide +kernel
theorem d_M_over_385 : decode b_M_over 385 = .ok (.lastore, 1) := by decide +kernel
theorem d_M_over_386 : decode b_M_over 386 = .ok (.aload_n 0, 1) := by decide +kernel
theorem d_M_over_387 : decode b_M_over 387 = .ok (.getfield 150, 3) := by decide +kernel
theorem d_M_over_390 : decode b_M_over 390 = .ok (.bipush 7, 2) := by decide +kernel
theorem d_M_over_392 : decode b_M_over 392 = .ok (.dup2, 1) := by decide +kernel
theorem d_M_over_393 : decode b_M_over 393 = .ok (.laload, 1) := by decide +kernel
theorem d_M_over_394 : decode b_M_over 394 = .ok (.lload 15, 2) := by decide +kernel
theorem d_M_over_396 : decode b_M_over 396 = .ok (.ladd, 1) := by decide +kernel
theorem d_M_over_397 : decode b_M_over 397 = .ok (.lastore, 1) := by decide +kernel
theorem d_M_over_398 : decode b_M_over 398 = .ok (.return_, 1) := by decide +kernel
theorem d_M_hash_0 : decode b_M_hash 0 = .ok (.iload_n 2, 1) := by decide +kernel
theorem d_M_hash_1 : decode b_M_hash 1 = .ok (.bipush 17, 2) := by decide +kernel
theorem d_M_hash_3 : decode b_M_hash 3 = .ok (.iadd, 1) := by decide +kernel
theorem d_M_hash_4 : decode b_M_hash 4 = .ok (.bipush 127, 2) := by decide +kernel
theorem d_M_hash_6 : decode b_M_hash 6 = .ok (.iadd, 1) := by decide +kernel
theorem d_M_hash_7 : decode b_M_hash 7 = .ok (.sipush 128, 3) := by decide +kernel
theorem d_M_hash_10 : decode b_M_hash 10 = .ok (.idiv, 1) := by decide +kernel
theorem d_M_hash_11 : decode b_M_hash 11 = .ok (.sipush 128, 3) := by decide +kernel
theorem d_M_hash_14 : decode b_M_hash 14 = .ok (.imul, 1) := by decide +kernel
theorem d_M_hash_15 : decode b_M_hash 15 = .ok (.istore_n 3, 1) := by decide +kernel
theorem d_M_hash_16 : decode b_M_hash 16 = .ok (.iconst 0, 1) := by decide +kernel
theorem d_M_hash_17 : decode b_M_hash 17 = .ok (.istore 4, 2) := by decide +kernel
theorem d_M_hash_19 : decode b_M_hash 19 = .ok (.iload 4, 2) := by decide +kernel
theorem d_M_hash_21 : decode b_M_hash 21 = .ok (.bipush 8, 2) := by decide +kernel
theorem d_M_hash_23 : decode b_M_hash 23 = .ok (.if_icmp .ge 23, 3) := by decide +kernel
theorem d_M_hash_26 : decode b_M_hash 26 = .ok (.aload_n 0, 1) := by decide +kernel
theorem d_M_hash_27 : decode b_M_hash 27 = .ok (.getfield 150, 3) := by decide +kernel
theorem d_M_hash_30 : decode b_M_hash 30 = .ok (.iload 4, 2) := by decide +kernel
theorem d_M_hash_32 : decode b_M_hash 32 = .ok (.aload_n 0, 1) := by decide +kernel
theorem d_M_hash_33 : decode b_M_hash 33 = .ok (.getfield 144, 3) := by decide +kernel
theorem d_M_hash_36 : decode b_M_hash 36 = .ok (.iload 4, 2) := by decide +kernel
theorem d_M_hash_38 : decode b_M_hash 38 = .ok (.laload, 1) := by decide +kernel
theorem d_M_hash_39 : decode b_M_hash 39 = .ok (.lastore, 1) := by decide +kernel
theorem d_M_hash_40 : decode b_M_hash 40 = .ok (.iinc 4 1, 3) := by decide +kernel
theorem d_M_hash_43 : decode b_M_hash 43 = .ok (.goto (-24), 3) := by decide +kernel
theorem d_M_hash_46 : decode b_M_hash 46 = .ok (.iconst 0, 1) := by decide +kernel
theorem d_M_hash_47 : decode b_M_hash 47 = .ok (.istore 4, 2) := by decide +kernel
theorem d_M_hash_49 : decode b_M_hash 49 = .ok (.iload 4, 2) := by decide +kernel
theorem d_M_hash_51 : decode b_M_hash 51 = .ok (.iload_n 3, 1) := by decide +kernel
theorem d_M_hash_52 : decode b_M_hash 52 = .ok (.if_icmp .ge 92, 3) := by decide +kernel
theorem d_M_hash_55 : decode b_M_hash 55 = .ok (.iconst 0, 1) := by decide +kernel
theorem d_M_hash_56 : decode b_M_hash 56 = .ok (.istore 5, 2) := by decide +kernel
theorem d_M_hash_58 : decode b_M_hash 58 = .ok (.iload 5, 2) := by decide +kernel
theorem d_M_hash_60 : decode b_M_hash 60 = .ok (.bipush 16, 2) := by decide +kernel
theorem d_M_hash_62 : decode b_M_hash 62 = .ok (.if_icmp .ge 69, 3) := by decide +kernel
theorem d_M_hash_65 : decode b_M_hash 65 = .ok (.aload_n 0, 1) := by decide +kernel
theorem d_M_hash_66 : decode b_M_hash 66 = .ok (.getfield 147, 3) := by decide +kernel
theorem d_M_hash_69 : decode b_M_hash 69 = .ok (.iload 5, 2) := by decide +kernel
theorem d_M_hash_71 : decode b_M_hash 71 = .ok (.lconst 0, 1) := by decide +kernel
theorem d_M_hash_72 : decode b_M_hash 72 = .ok (.lastore, 1) := by decide +kernel
theorem d_M_hash_73 : decode b_M_hash 73 = .ok (.iconst 0, 1) := by decide +kernel
theorem d_M_hash_74 : decode b_M_hash 74 = .ok (.istore 6, 2) := by decide +kernel
theorem d_M_hash_76 : decode b_M_hash 76 = .ok (.iload 6, 2) := by decide +kernel
theorem d_M_hash_78 : decode b_M_hash 78 = .ok (.bipush 8, 2) := by decide +kernel
theorem d_M_hash_80 : decode b_M_hash 80 = .ok (.if_icmp .ge 45, 3) := by decide +kernel
theorem d_M_hash_83 : decode b_M_hash 83 = .ok (.aload_n 0, 1) := by decide +kernel
theorem d_M_hash_84 : decode b_M_hash 84 = .ok (.getfield 147, 3) := by decide +kernel
theorem d_M_hash_87 : decode b_M_hash 87 = .ok (.iload 5, 2) := by decide +kernel
theorem d_M_hash_89 : decode b_M_hash 89 = .ok (.aload_n 0, 1) := by decide +kernel
theorem d_M_hash_90 : decode b_M_hash 90 = .ok (.getfield 147, 3) := by decide +kernel
theorem d_M_hash_93 : decode b_M_hash 93 = .ok (.iload 5, 2) := by decide +kernel
theorem d_M_hash_95 : decode b_M_hash 95 = .ok (.laload, 1) := by decide +kernel
theorem d_M_hash_96 : decode b_M_hash 96 = .ok (.bipush 8, 2) := by decide +kernel
theorem d_M_hash_98 : decode b_M_hash 98 = .ok (.lshl, 1) := by decide +kernel
theorem d_M_hash_99 : decode b_M_hash 99 = .ok (.aload_n 1, 1) := by decide +kernel
theorem d_M_hash_100 : decode b_M_hash 100 = .ok (.iload_n 2, 1) := by decide +kernel
theorem d_M_hash_101 : decode b_M_hash 101 = .ok (.iload 4, 2) := by decide +kernel
theorem d_M_hash_103 : decode b_M_hash 103 = .ok (.bipush 8, 2) := by decide +kernel
theorem d_M_hash_105 : decode b_M_hash 105 = .ok (.iload 5, 2) := by decide +kernel
theorem d_M_hash_107 : decode b_M_hash 107 = .ok (.imul, 1) := by decide +kernel
theorem d_M_hash_108 : decode b_M_hash 108 = .ok (.iadd, 1) := by decide +kernel
theorem d_M_hash_109 : decode b_M_hash 109 = .ok (.iload 6, 2) := by decide +kernel
theorem d_M_hash_111 : decode b_M_hash 111 = .ok (.iadd, 1) := by decide +kernel
theorem d_M_hash_112 : decode b_M_hash 112 = .ok (.iload_n 3, 1) := by decide +kernel
theorem d_M_hash_113 : decode b_M_hash 113 = .ok (.invokestatic 260, 3) := by decide +kernel
theorem d_M_hash_116 : decode b_M_hash 116 = .ok (.i2l, 1) := by decide +kernel
theorem d_M_hash_117 : decode b_M_hash 117 = .ok (.lor, 1) := by decide +kernel
theorem d_M_hash_118 : decode b_M_hash 118 = .ok (.lastore, 1) := by decide +kernel
theorem d_M_hash_119 : decode b_M_hash 119 = .ok (.iinc 6 1, 3) := by decide +kernel
theorem d_M_hash_122 : decode b_M_hash 122 = .ok (.goto (-46), 3) := by decide +kernel
theorem d_M_hash_125 : decode b_M_hash 125 = .ok (.iinc 5 1, 3) := by decide +kernel
theorem d_M_hash_128 : decode b_M_hash 128 = .ok (.goto (-70), 3) := by decide +kernel
theorem d_M_hash_131 : decode b_M_hash 131 = .ok (.aload_n 0, 1) := by decide +kernel
theorem d_M_hash_132 : decode b_M_hash 132 = .ok (.invokevirtual 264, 3) := by decide +kernel
theorem d_M_hash_135 : decode b_M_hash 135 = .ok (.iinc 4 128, 6) := by decide +kernel
theorem d_M_hash_141 : decode b_M_hash 141 = .ok (.goto (-92), 3) := by decide +kernel
theorem d_M_hash_144 : decode b_M_hash 144 = .ok (.iconst 0, 1) := by decide +kernel
theorem d_M_hash_145 : decode b_M_hash 145 = .ok (.istore 4, 2) := by decide +kernel
theorem d_M_hash_147 : decode b_M_hash 147 = .ok (.iload 4, 2) := by decide +kernel
theorem d_M_hash_149 : decode b_M_hash 149 = .ok (.bipush 64, 2) := by decide +kernel
theorem d_M_hash_151 : decode b_M_hash 151 = .ok (.if_icmp .ge 40, 3) := by decide +kernel
theorem d_M_hash_154 : decode b_M_hash 154 = .ok (.aload_n 0, 1) := by decide +kernel
theorem d_M_hash_155 : decode b_M_hash 155 = .ok (.getfield 159, 3) := by decide +kernel
theorem d_M_hash_158 : decode b_M_hash 158 = .ok (.iload 4, 2) := by decide +kernel
theorem d_M_hash_160 : decode b_M_hash 160 = .ok (.aload_n 0, 1) := by decide +kernel
theorem d_M_hash_161 : decode b_M_hash 161 = .ok (.getfield 150, 3) := by decide +kernel
theorem d_M_hash_164 : decode b_M_hash 164 = .ok (.iload 4, 2) := by decide +kernel
theorem d_M_hash_166 : decode b_M_hash 166 = .ok (.bipush 8, 2) := by decide +kernel
theorem d_M_hash_168 : decode b_M_hash 168 = .ok (.idiv, 1) := by decide +kernel
theorem d_M_hash_169 : decode b_M_hash 169 = .ok (.laload, 1) := by decide +kernel
theorem d_M_hash_170 : decode b_M_hash 170 = .ok (.bipush 56, 2) := by decide +kernel
theorem d_M_hash_172 : decode b_M_hash 172 = .ok (.bipush 8, 2) := by decide +kernel
theorem d_M_hash_174 : decode b_M_hash 174 = .ok (.iload 4, 2) := by decide +kernel
theorem d_M_hash_176 : decode b_M_hash 176 = .ok (.bipush 8, 2) := by decide +kernel
theorem d_M_hash_178 : decode b_M_hash 178 = .ok (.irem, 1) := by decide +kernel
theorem d_M_hash_179 : decode b_M_hash 179 = .ok (.imul, 1) := by decide +kernel
theorem d_M_hash_180 : decode b_M_hash 180 = .ok (.isub, 1) := by decide +kernel
theorem d_M_hash_181 : decode b_M_hash 181 = .ok (.lushr, 1) := by decide +kernel
theorem d_M_hash_182 : decode b_M_hash 182 = .ok (.l2i, 1) := by decide +kernel
theorem d_M_hash_183 : decode b_M_hash 183 = .ok (.i2b, 1) := by decide +kernel
theorem d_M_hash_184 : decode b_M_hash 184 = .ok (.bastore, 1) := by decide +kernel
theorem d_M_hash_185 : decode b_M_hash 185 = .ok (.iinc 4 1, 3) := by decide +kernel
theorem d_M_hash_188 : decode b_M_hash 188 = .ok (.goto (-41), 3) := by decide +kernel
theorem d_M_hash_191 : decode b_M_hash 191 = .ok (.return_, 1) := by decide +kernel
theorem d_M_hashNumber_0 : decode b_M_hashNumber 0 = .ok (.iconst 0, 1) := by decide +kernel
theorem d_M_hashNumber_1 : decode b_M_hashNumber 1 = .ok (.istore_n 2, 1) := by decide +kernel
theorem d_M_hashNumber_2 : decode b_M_hashNumber 2 = .ok (.iload_n 2, 1) := by decide +kernel
theorem d_M_hashNumber_3 : decode b_M_hashNumber 3 = .ok (.bipush 32, 2) := by decide +kernel
theorem d_M_hashNumber_5 : decode b_M_hashNumber 5 = .ok (.if_icmp .ge 46, 3) := by decide +kernel
theorem d_M_hashNumber_8 : decode b_M_hashNumber 8 = .ok (.aload_n 0, 1) := by decide +kernel
theorem d_M_hashNumber_9 : decode b_M_hashNumber 9 = .ok (.getfield 123, 3) := by decide +kernel
theorem d_M_hashNumber_12 : decode b_M_hashNumber 12 = .ok (.iload_n 2, 1) := by decide +kernel
theorem d_M_hashNumber_13 : decode b_M_hashNumber 13 = .ok (.aload_n 0, 1) := by decide +kernel
theorem d_M_hashNumber_14 : decode b_M_hashNumber 14 = .ok (.getfield 159, 3) := by decide +kernel
theorem d_M_hashNumber_17 : decode b_M_hashNumber 17 = .ok (.iconst 2, 1) := by decide +kernel
theorem d_M_hashNumber_18 : decode b_M_hashNumber 18 = .ok (.iload_n 2, 1) := by decide +kernel
theorem d_M_hashNumber_19 : decode b_M_hashNumber 19 = .ok (.imul, 1) := by decide +kernel
theorem d_M_hashNumber_20 : decode b_M_hashNumber 20 = .ok (.baload, 1) := by decide +kernel
theorem d_M_hashNumber_21 : decode b_M_hashNumber 21 = .ok (.sipush 255, 3) := by decide +kernel
theorem d_M_hashNumber_24 : decode b_M_hashNumber 24 = .ok (.iand, 1) := by decide +kernel
theorem d_M_hashNumber_25 : decode b_M_hashNumber 25 = .ok (.aload_n 0, 1) := by decide +kernel
theorem d_M_hashNumber_26 : decode b_M_hashNumber 26 = .ok (.getfield 159, 3) := by decide +kernel
theorem d_M_hashNumber_29 : decode b_M_hashNumber 29 = .ok (.iconst 2, 1) := by decide +kernel
theorem d_M_hashNumber_30 : decode b_M_hashNumber 30 = .ok (.iload_n 2, 1) := by decide +kernel
theorem d_M_hashNumber_31 : decode b_M_hashNumber 31 = .ok (.imul, 1) := by decide +kernel
theorem d_M_hashNumber_32 : decode b_M_hashNumber 32 = .ok (.iconst 1, 1) := by decide +kernel
theorem d_M_hashNumber_33 : decode b_M_hashNumber 33 = .ok (.iadd, 1) := by decide +kernel
theorem d_M_hashNumber_34 : decode b_M_hashNumber 34 = .ok (.baload, 1) := by decide +kernel
theorem d_M_hashNumber_35 : decode b_M_hashNumber 35 = .ok (.sipush 255, 3) := by decide +kernel
theorem d_M_hashNumber_38 : decode b_M_hashNumber 38 = .ok (.iand, 1) := by decide +kernel
theorem d_M_hashNumber_39 : decode b_M_hashNumber 39 = .ok (.bipush 8, 2) := by decide +kernel
theorem d_M_hashNumber_41 : decode b_M_hashNumber 41 = .ok (.ishl, 1) := by decide +kernel
theorem d_M_hashNumber_42 : decode b_M_hashNumber 42 = .ok (.ior, 1) := by decide +kernel
theorem d_M_hashNumber_43 : decode b_M_hashNumber 43 = .ok (.i2l, 1) := by decide +kernel
theorem d_M_hashNumber_44 : decode b_M_hashNumber 44 = .ok (.lastore, 1) := by decide +kernel
theorem d_M_hashNumber_45 : decode b_M_hashNumber 45 = .ok (.iinc 2 1, 3) := by decide +kernel
theorem d_M_hashNumber_48 : decode b_M_hashNumber 48 = .ok (.goto (-46), 3) := by decide +kernel
theorem d_M_hashNumber_51 : decode b_M_hashNumber 51 = .ok (.aload_n 0, 1) := by decide +kernel
theorem d_M_hashNumber_52 : decode b_M_hashNumber 52 = .ok (.aload_n 1, 1) := by decide +kernel
theorem d_M_hashNumber_53 : decode b_M_hashNumber 53 = .ok (.aload_n 0, 1) := by decide +kernel
theorem d_M_hashNumber_54 : decode b_M_hashNumber 54 = .ok (.getfield 34, 3) := by decide +kernel
theorem d_M_hashNumber_57 : decode b_M_hashNumber 57 = .ok (.aload_n 0, 1) := by decide +kernel
theorem d_M_hashNumber_58 : decode b_M_hashNumber 58 = .ok (.getfield 37, 3) := by decide +kernel
theorem d_M_hashNumber_61 : decode b_M_hashNumber 61 = .ok (.invokevirtual 225, 3) := by decide +kernel
theorem d_M_hashNumber_64 : decode b_M_hashNumber 64 = .ok (.return_, 1) := by decide +kernel
theorem d_M_clamped_0 : decode b_M_clamped 0 = .ok (.iconst 0, 1) := by decide +kernel
theorem d_M_clamped_1 : decode b_M_clamped 1 = .ok (.istore 4, 2) := by decide +kernel
theorem d_M_clamped_3 : decode b_M_clamped 3 = .ok (.iload 4, 2) := by decide +kernel
theorem d_M_clamped_5 : decode b_M_clamped 5 = .ok (.bipush 16, 2) := by decide +kernel
theorem d_M_clamped_7 : decode b_M_clamped 7 = .ok (.if_icmp .ge 44, 3) := by decide +kernel
theorem d_M_clamped_10 : decode b_M_clamped 10 = .ok (.aload_n 1, 1) := by decide +kernel
theorem d_M_clamped_11 : decode b_M_clamped 11 = .ok (.iload 4, 2) := by decide +kernel
theorem d_M_clamped_13 : decode b_M_clamped 13 = .ok (.aload_n 2, 1) := by decide +kernel
theorem d_M_clamped_14 : decode b_M_clamped 14 = .ok (.iload_n 3, 1) := by decide +kernel
theorem d_M_clamped_15 : decode b_M_clamped 15 = .ok (.iconst 2, 1) := by decide +kernel
theorem d_M_clamped_16 : decode b_M_clamped 16 = .ok (.iload 4, 2) := by decide +kernel
theorem d_M_clamped_18 : decode b_M_clamped 18 = .ok (.imul, 1) := by decide +kernel
theorem d_M_clamped_19 : decode b_M_clamped 19 = .ok (.iadd, 1) := by decide +kernel
theorem d_M_clamped_20 : decode b_M_clamped 20 = .ok (.baload, 1) := by decide +kernel
theorem d_M_clamped_21 : decode b_M_clamped 21 = .ok (.sipush 255, 3) := by decide +kernel
theorem d_M_clamped_24 : decode b_M_clamped 24 = .ok (.iand, 1) := by decide +kernel
theorem d_M_clamped_25 : decode b_M_clamped 25 = .ok (.aload_n 2, 1) := by decide +kernel
theorem d_M_clamped_26 : decode b_M_clamped 26 = .ok (.iload_n 3, 1) := by decide +kernel
theorem d_M_clamped_27 : decode b_M_clamped 27 = .ok (.iconst 2, 1) := by decide +kernel
theorem d_M_clamped_28 : decode b_M_clamped 28 = .ok (.iload 4, 2) := by decide +kernel
theorem d_M_clamped_30 : decode b_M_clamped 30 = .ok (.imul, 1) := by decide +kernel
theorem d_M_clamped_31 : decode b_M_clamped 31 = .ok (.iadd, 1) := by decide +kernel
theorem d_M_clamped_32 : decode b_M_clamped 32 = .ok (.iconst 1, 1) := by decide +kernel
theorem d_M_clamped_33 : decode b_M_clamped 33 = .ok (.iadd, 1) := by decide +kernel
theorem d_M_clamped_34 : decode b_M_clamped 34 = .ok (.baload, 1) := by decide +kernel
theorem d_M_clamped_35 : decode b_M_clamped 35 = .ok (.sipush 255, 3) := by decide +kernel
theorem d_M_clamped_38 : decode b_M_clamped 38 = .ok (.iand, 1) := by decide +kernel
theorem d_M_clamped_39 : decode b_M_clamped 39 = .ok (.bipush 8, 2) := by decide +kernel
theorem d_M_clamped_41 : decode b_M_clamped 41 = .ok (.ishl, 1) := by decide +kernel
theorem d_M_clamped_42 : decode b_M_clamped 42 = .ok (.ior, 1) := by decide +kernel
theorem d_M_clamped_43 : decode b_M_clamped 43 = .ok (.i2l, 1) := by decide +kernel
theorem d_M_clamped_44 : decode b_M_clamped 44 = .ok (.lastore, 1) := by decide +kernel
theorem d_M_clamped_45 : decode b_M_clamped 45 = .ok (.iinc 4 1, 3) := by decide +kernel
theorem d_M_clamped_48 : decode b_M_clamped 48 = .ok (.goto (-45), 3) := by decide +kernel
theorem d_M_clamped_51 : decode b_M_clamped 51 = .ok (.aload_n 1, 1) := by decide +kernel
theorem d_M_clamped_52 : decode b_M_clamped 52 = .ok (.iconst 0, 1) := by decide +kernel
theorem d_M_clamped_53 : decode b_M_clamped 53 = .ok (.dup2, 1) := by decide +kernel
theorem d_M_clamped_54 : decode b_M_clamped 54 = .ok (.laload, 1) := by decide +kernel
theorem d_M_clamped_55 : decode b_M_clamped 55 = .ok (.ldc2_w 290, 3) := by decide +kernel
theorem d_M_clamped_58 : decode b_M_clamped 58 = .ok (.land, 1) := by decide +kernel
theorem d_M_clamped_59 : decode b_M_clamped 59 = .ok (.lastore, 1) := by decide +kernel
theorem d_M_clamped_60 : decode b_M_clamped 60 = .ok (.aload_n 1, 1) := by decide +kernel
theorem d_M_clamped_61 : decode b_M_clamped 61 = .ok (.bipush 15, 2) := by decide +kernel
theorem d_M_clamped_63 : decode b_M_clamped 63 = .ok (.aload_n 1, 1) := by decide +kernel
theorem d_M_clamped_64 : decode b_M_clamped 64 = .ok (.bipush 15, 2) := by decide +kernel
theorem d_M_clamped_66 : decode b_M_clamped 66 = .ok (.laload, 1) := by decide +kernel
theorem d_M_clamped_67 : decode b_M_clamped 67 = .ok (.ldc2_w 167, 3) := by decide +kernel
theorem d_M_clamped_70 : decode b_M_clamped 70 = .ok (.land, 1) := by decide +kernel
theorem d_M_clamped_71 : decode b_M_clamped 71 = .ok (.ldc2_w 292, 3) := by decide +kernel
theorem d_M_clamped_74 : decode b_M_clamped 74 = .ok (.lor, 1) := by decide +kernel
theorem d_M_clamped_75 : decode b_M_clamped 75 = .ok (.lastore, 1) := by decide +kernel
theorem d_M_clamped_76 : decode b_M_clamped 76 = .ok (.return_, 1) := by decide +kernel
theorem d_M_hashMessage_0 : decode b_M_hashMessage 0 = .ok (.iconst 0, 1) := by decide +kernel
theorem d_M_hashMessage_1 : decode b_M_hashMessage 1 = .ok (.istore_n 2, 1) := by decide +kernel
theorem d_M_hashMessage_2 : decode b_M_hashMessage 2 = .ok (.iload_n 2, 1) := by decide +kernel
theorem d_M_hashMessage_3 : decode b_M_hashMessage 3 = .ok (.aload_n 0, 1) := by decide +kernel
theorem d_M_hashMessage_4 : decode b_M_hashMessage 4 = .ok (.getfield 309, 3) := by decide +kernel
theorem d_M_hashMessage_7 : decode b_M_hashMessage 7 = .ok (.if_icmp .ge 23, 3) := by decide +kernel
theorem d_M_hashMessage_10 : decode b_M_hashMessage 10 = .ok (.aload_n 0, 1) := by decide +kernel
theorem d_M_hashMessage_11 : decode b_M_hashMessage 11 = .ok (.getfield 113, 3) := by decide +kernel
theorem d_M_hashMessage_14 : decode b_M_hashMessage 14 = .ok (.iload_n 1, 1) := by decide +kernel
theorem d_M_hashMessage_15 : decode b_M_hashMessage 15 = .ok (.iload_n 2, 1) := by decide +kernel
theorem d_M_hashMessage_16 : decode b_M_hashMessage 16 = .ok (.iadd, 1) := by decide +kernel
theorem d_M_hashMessage_17 : decode b_M_hashMessage 17 = .ok (.aload_n 0, 1) := by decide +kernel
theorem d_M_hashMessage_18 : decode b_M_hashMessage 18 = .ok (.getfield 14, 3) := by decide +kernel
theorem d_M_hashMessage_21 : decode b_M_hashMessage 21 = .ok (.iload_n 2, 1) := by decide +kernel
theorem d_M_hashMessage_22 : decode b_M_hashMessage 22 = .ok (.baload, 1) := by decide +kernel
theorem d_M_hashMessage_23 : decode b_M_hashMessage 23 = .ok (.bastore, 1) := by decide +kernel
theorem d_M_hashMessage_24 : decode b_M_hashMessage 24 = .ok (.iinc 2 1, 3) := by decide +kernel
theorem d_M_hashMessage_27 : decode b_M_hashMessage 27 = .ok (.goto (-25), 3) := by decide +kernel
theorem d_M_hashMessage_30 : decode b_M_hashMessage 30 = .ok (.aload_n 0, 1) := by decide +kernel
theorem d_M_hashMessage_31 : decode b_M_hashMessage 31 = .ok (.aload_n 0, 1) := by decide +kernel
theorem d_M_hashMessage_32 : decode b_M_hashMessage 32 = .ok (.getfield 113, 3) := by decide +kernel
theorem d_M_hashMessage_35 : decode b_M_hashMessage 35 = .ok (.iload_n 1, 1) := by decide +kernel
theorem d_M_hashMessage_36 : decode b_M_hashMessage 36 = .ok (.aload_n 0, 1) := by decide +kernel
theorem d_M_hashMessage_37 : decode b_M_hashMessage 37 = .ok (.getfield 309, 3) := by decide +kernel
theorem d_M_hashMessage_40 : decode b_M_hashMessage 40 = .ok (.iadd, 1) := by decide +kernel
theorem d_M_hashMessage_41 : decode b_M_hashMessage 41 = .ok (.invokevirtual 294, 3) := by decide +kernel
theorem d_M_hashMessage_44 : decode b_M_hashMessage 44 = .ok (.return_, 1) := by decide +kernel
