theorem d_F_times_0 : decode b_F_times 0 = .ok (.aload_n 1, 1) := by decide +kernel
theorem d_F_times_1 : decode b_F_times 1 = .ok (.iconst 0, 1) := by decide +kernel
theorem d_F_times_2 : decode b_F_times 2 = .ok (.laload, 1) := by decide +kernel
theorem d_F_times_3 : decode b_F_times 3 = .ok (.lstore_n 3, 1) := by decide +kernel
theorem d_F_times_4 : decode b_F_times 4 = .ok (.aload_n 1, 1) := by decide +kernel
theorem d_F_times_5 : decode b_F_times 5 = .ok (.iconst 1, 1) := by decide +kernel
theorem d_F_times_6 : decode b_F_times 6 = .ok (.laload, 1) := by decide +kernel
theorem d_F_times_7 : decode b_F_times 7 = .ok (.lstore 5, 2) := by decide +kernel
theorem d_F_times_9 : decode b_F_times 9 = .ok (.aload_n 1, 1) := by decide +kernel
theorem d_F_times_10 : decode b_F_times 10 = .ok (.iconst 2, 1) := by decide +kernel
theorem d_F_times_11 : decode b_F_times 11 = .ok (.laload, 1) := by decide +kernel
theorem d_F_times_12 : decode b_F_times 12 = .ok (.lstore 7, 2) := by decide +kernel
theorem d_F_times_14 : decode b_F_times 14 = .ok (.aload_n 1, 1) := by decide +kernel
theorem d_F_times_15 : decode b_F_times 15 = .ok (.iconst 3, 1) := by decide +kernel
theorem d_F_times_16 : decode b_F_times 16 = .ok (.laload, 1) := by decide +kernel
theorem d_F_times_17 : decode b_F_times 17 = .ok (.lstore 9, 2) := by decide +kernel
theorem d_F_times_19 : decode b_F_times 19 = .ok (.aload_n 1, 1) := by decide +kernel
theorem d_F_times_20 : decode b_F_times 20 = .ok (.iconst 4, 1) := by decide +kernel
theorem d_F_times_21 : decode b_F_times 21 = .ok (.laload, 1) := by decide +kernel
theorem d_F_times_22 : decode b_F_times 22 = .ok (.lstore 11, 2) := by decide +kernel
theorem d_F_times_24 : decode b_F_times 24 = .ok (.aload_n 1, 1) := by decide +kernel
theorem d_F_times_25 : decode b_F_times 25 = .ok (.iconst 5, 1) := by decide +kernel
theorem d_F_times_26 : decode b_F_times 26 = .ok (.laload, 1) := by decide +kernel
theorem d_F_times_27 : decode b_F_times 27 = .ok (.lstore 13, 2) := by decide +kernel
theorem d_F_times_29 : decode b_F_times 29 = .ok (.aload_n 1, 1) := by decide +kernel
theorem d_F_times_30 : decode b_F_times 30 = .ok (.bipush 6, 2) := by decide +kernel
theorem d_F_times_32 : decode b_F_times 32 = .ok (.laload, 1) := by decide +kernel
theorem d_F_times_33 : decode b_F_times 33 = .ok (.lstore 15, 2) := by decide +kernel
theorem d_F_times_35 : decode b_F_times 35 = .ok (.aload_n 1, 1) := by decide +kernel
theorem d_F_times_36 : decode b_F_times 36 = .ok (.bipush 7, 2) := by decide +kernel
theorem d_F_times_38 : decode b_F_times 38 = .ok (.laload, 1) := by decide +kernel
theorem d_F_times_39 : decode b_F_times 39 = .ok (.lstore 17, 2) := by decide +kernel
theorem d_F_times_41 : decode b_F_times 41 = .ok (.aload_n 1, 1) := by decide +kernel
theorem d_F_times_42 : decode b_F_times 42 = .ok (.bipush 8, 2) := by decide +kernel
theorem d_F_times_44 : decode b_F_times 44 = .ok (.laload, 1) := by decide +kernel
theorem d_F_times_45 : decode b_F_times 45 = .ok (.lstore 19, 2) := by decide +kernel
theorem d_F_times_47 : decode b_F_times 47 = .ok (.aload_n 1, 1) := by decide +kernel
theorem d_F_times_48 : decode b_F_times 48 = .ok (.bipush 9, 2) := by decide +kernel
theorem d_F_times_50 : decode b_F_times 50 = .ok (.laload, 1) := by decide +kernel
theorem d_F_times_51 : decode b_F_times 51 = .ok (.lstore 21, 2) := by decide +kernel
theorem d_F_times_53 : decode b_F_times 53 = .ok (.aload_n 2, 1) := by decide +kernel
theorem d_F_times_54 : decode b_F_times 54 = .ok (.iconst 0, 1) := by decide +kernel
theorem d_F_times_55 : decode b_F_times 55 = .ok (.laload, 1) := by decide +kernel
theorem d_F_times_56 : decode b_F_times 56 = .ok (.lstore 23, 2) := by decide +kernel
theorem d_F_times_58 : decode b_F_times 58 = .ok (.aload_n 2, 1) := by decide +kernel
theorem d_F_times_59 : decode b_F_times 59 = .ok (.iconst 1, 1) := by decide +kernel
theorem d_F_times_60 : decode b_F_times 60 = .ok (.laload, 1) := by decide +kernel
theorem d_F_times_61 : decode b_F_times 61 = .ok (.lstore 25, 2) := by decide +kernel
theorem d_F_times_63 : decode b_F_times 63 = .ok (.aload_n 2, 1) := by decide +kernel
theorem d_F_times_64 : decode b_F_times 64 = .ok (.iconst 2, 1) := by decide +kernel
theorem d_F_times_65 : decode b_F_times 65 = .ok (.laload, 1) := by decide +kernel
theorem d_F_times_66 : decode b_F_times 66 = .ok (.lstore 27, 2) := by decide +kernel
theorem d_F_times_68 : decode b_F_times 68 = .ok (.aload_n 2, 1) := by decide +kernel
theorem d_F_times_69 : decode b_F_times 69 = .ok (.iconst 3, 1) := by decide +kernel
theorem d_F_times_70 : decode b_F_times 70 = .ok (.laload, 1) := by decide +kernel
theorem d_F_times_71 : decode b_F_times 71 = .ok (.lstore 29, 2) := by decide +kernel
theorem d_F_times_73 : decode b_F_times 73 = .ok (.aload_n 2, 1) := by decide +kernel
theorem d_F_times_74 : decode b_F_times 74 = .ok (.iconst 4, 1) := by decide +kernel
theorem d_F_times_75 : decode b_F_times 75 = .ok (.laload, 1) := by decide +kernel
theorem d_F_times_76 : decode b_F_times 76 = .ok (.lstore 31, 2) := by decide +kernel
theorem d_F_times_78 : decode b_F_times 78 = .ok (.aload_n 2, 1) := by decide +kernel
theorem d_F_times_79 : decode b_F_times 79 = .ok (.iconst 5, 1) := by decide +kernel
theorem d_F_times_80 : decode b_F_times 80 = .ok (.laload, 1) := by decide +kernel
theorem d_F_times_81 : decode b_F_times 81 = .ok (.lstore 33, 2) := by decide +kernel
theorem d_F_times_83 : decode b_F_times 83 = .ok (.aload_n 2, 1) := by decide +kernel
theorem d_F_times_84 : decode b_F_times 84 = .ok (.bipush 6, 2) := by decide +kernel
theorem d_F_times_86 : decode b_F_times 86 = .ok (.laload, 1) := by decide +kernel
theorem d_F_times_87 : decode b_F_times 87 = .ok (.lstore 35, 2) := by decide +kernel
theorem d_F_times_89 : decode b_F_times 89 = .ok (.aload_n 2, 1) := by decide +kernel
theorem d_F_times_90 : decode b_F_times 90 = .ok (.bipush 7, 2) := by decide +kernel
theorem d_F_times_92 : decode b_F_times 92 = .ok (.laload, 1) := by decide +kernel
theorem d_F_times_93 : decode b_F_times 93 = .ok (.lstore 37, 2) := by decide +kernel
theorem d_F_times_95 : decode b_F_times 95 = .ok (.aload_n 2, 1) := by decide +kernel
theorem d_F_times_96 : decode b_F_times 96 = .ok (.bipush 8, 2) := by decide +kernel
theorem d_F_times_98 : decode b_F_times 98 = .ok (.laload, 1) := by decide +kernel
theorem d_F_times_99 : decode b_F_times 99 = .ok (.lstore 39, 2) := by decide +kernel
theorem d_F_times_101 : decode b_F_times 101 = .ok (.aload_n 2, 1) := by decide +kernel
theorem d_F_times_102 : decode b_F_times 102 = .ok (.bipush 9, 2) := by decide +kernel
theorem d_F_times_104 : decode b_F_times 104 = .ok (.laload, 1) := by decide +kernel
theorem d_F_times_105 : decode b_F_times 105 = .ok (.lstore 41, 2) := by decide +kernel
theorem d_F_times_107 : decode b_F_times 107 = .ok (.ldc2_w 49, 3) := by decide +kernel
theorem d_F_times_110 : decode b_F_times 110 = .ok (.lload 5, 2) := by decide +kernel
theorem d_F_times_112 : decode b_F_times 112 = .ok (.lmul, 1) := by decide +kernel
theorem d_F_times_113 : decode b_F_times 113 = .ok (.lstore 43, 2) := by decide +kernel
theorem d_F_times_115 : decode b_F_times 115 = .ok (.ldc2_w 49, 3) := by decide +kernel
theorem d_F_times_118 : decode b_F_times 118 = .ok (.lload 9, 2) := by decide +kernel
theorem d_F_times_120 : decode b_F_times 120 = .ok (.lmul, 1) := by decide +kernel
theorem d_F_times_121 : decode b_F_times 121 = .ok (.lstore 45, 2) := by decide +kernel
theorem d_F_times_123 : decode b_F_times 123 = .ok (.ldc2_w 49, 3) := by decide +kernel
theorem d_F_times_126 : decode b_F_times 126 = .ok (.lload 13, 2) := by decide +kernel
theorem d_F_times_128 : decode b_F_times 128 = .ok (.lmul, 1) := by decide +kernel
theorem d_F_times_129 : decode b_F_times 129 = .ok (.lstore 47, 2) := by decide +kernel
theorem d_F_times_131 : decode b_F_times 131 = .ok (.ldc2_w 49, 3) := by decide +kernel
theorem d_F_times_134 : decode b_F_times 134 = .ok (.lload 17, 2) := by decide +kernel
theorem d_F_times_136 : decode b_F_times 136 = .ok (.lmul, 1) := by decide +kernel
theorem d_F_times_137 : decode b_F_times 137 = .ok (.lstore 49, 2) := by decide +kernel
theorem d_F_times_139 : decode b_F_times 139 = .ok (.ldc2_w 49, 3) := by decide +kernel
theorem d_F_times_142 : decode b_F_times 142 = .ok (.lload 21, 2) := by decide +kernel
theorem d_F_times_144 : decode b_F_times 144 = .ok (.lmul, 1) := by decide +kernel
theorem d_F_times_145 : decode b_F_times 145 = .ok (.lstore 51, 2) := by decide +kernel
theorem d_F_times_147 : decode b_F_times 147 = .ok (.aload_n 0, 1) := by decide +kernel
theorem d_F_times_148 : decode b_F_times 148 = .ok (.iconst 0, 1) := by decide +kernel
theorem d_F_times_149 : decode b_F_times 149 = .ok (.lload_n 3, 1) := by decide +kernel
theorem d_F_times_150 : decode b_F_times 150 = .ok (.lload 23, 2) := by decide +kernel
theorem d_F_times_152 : decode b_F_times 152 = .ok (.lmul, 1) := by decide +kernel
theorem d_F_times_153 : decode b_F_times 153 = .ok (.ldc2_w 51, 3) := by decide +kernel
theorem d_F_times_156 : decode b_F_times 156 = .ok (.lload 43, 2) := by decide +kernel
theorem d_F_times_158 : decode b_F_times 158 = .ok (.lload 41, 2) := by decide +kernel
theorem d_F_times_160 : decode b_F_times 160 = .ok (.lmul, 1) := by decide +kernel
theorem d_F_times_161 : decode b_F_times 161 = .ok (.lload 7, 2) := by decide +kernel
theorem d_F_times_163 : decode b_F_times 163 = .ok (.lload 39, 2) := by decide +kernel
theorem d_F_times_165 : decode b_F_times 165 = .ok (.lmul, 1) := by decide +kernel
theorem d_F_times_166 : decode b_F_times 166 = .ok (.ladd, 1) := by decide +kernel
theorem d_F_times_167 : decode b_F_times 167 = .ok (.lload 45, 2) := by decide +kernel
theorem d_F_times_169 : decode b_F_times 169 = .ok (.lload 37, 2) := by decide +kernel
theorem d_F_times_171 : decode b_F_times 171 = .ok (.lmul, 1) := by decide +kernel
theorem d_F_times_172 : decode b_F_times 172 = .ok (.ladd, 1) := by decide +kernel
theorem d_F_times_173 : decode b_F_times 173 = .ok (.lload 11, 2) := by decide +kernel
theorem d_F_times_175 : decode b_F_times 175 = .ok (.lload 35, 2) := by decide +kernel
theorem d_F_times_177 : decode b_F_times 177 = .ok (.lmul, 1) := by decide +kernel
theorem d_F_times_178 : decode b_F_times 178 = .ok (.ladd, 1) := by decide +kernel
theorem d_F_times_179 : decode b_F_times 179 = .ok (.lload 47, 2) := by decide +kernel
theorem d_F_times_181 : decode b_F_times 181 = .ok (.lload 33, 2) := by decide +kernel
theorem d_F_times_183 : decode b_F_times 183 = .ok (.lmul, 1) := by decide +kernel
theorem d_F_times_184 : decode b_F_times 184 = .ok (.ladd, 1) := by decide +kernel
theorem d_F_times_185 : decode b_F_times 185 = .ok (.lload 15, 2) := by decide +kernel
theorem d_F_times_187 : decode b_F_times 187 = .ok (.lload 31, 2) := by decide +kernel
theorem d_F_times_189 : decode b_F_times 189 = .ok (.lmul, 1) := by decide +kernel
theorem d_F_times_190 : decode b_F_times 190 = .ok (.ladd, 1) := by decide +kernel
theorem d_F_times_191 : decode b_F_times 191 = .ok (.lload 49, 2) := by decide +kernel
theorem d_F_times_193 : decode b_F_times 193 = .ok (.lload 29, 2) := by decide +kernel
theorem d_F_times_195 : decode b_F_times 195 = .ok (.lmul, 1) := by decide +kernel
theorem d_F_times_196 : decode b_F_times 196 = .ok (.ladd, 1) := by decide +kernel
theorem d_F_times_197 : decode b_F_times 197 = .ok (.lload 19, 2) := by decide +kernel
theorem d_F_times_199 : decode b_F_times 199 = .ok (.lload 27, 2) := by decide +kernel
theorem d_F_times_201 : decode b_F_times 201 = .ok (.lmul, 1) := by decide +kernel
theorem d_F_times_202 : decode b_F_times 202 = .ok (.ladd, 1) := by decide +kernel
theorem d_F_times_203 : decode b_F_times 203 = .ok (.lload 51, 2) := by decide +kernel
theorem d_F_times_205 : decode b_F_times 205 = .ok (.lload 25, 2) := by decide +kernel
theorem d_F_times_207 : decode b_F_times 207 = .ok (.lmul, 1) := by decide +kernel
theorem d_F_times_208 : decode b_F_times 208 = .ok (.ladd, 1) := by decide +kernel
theorem d_F_times_209 : decode b_F_times 209 = .ok (.lmul, 1) := by decide +kernel
theorem d_F_times_210 : decode b_F_times 210 = .ok (.ladd, 1) := by decide +kernel
theorem d_F_times_211 : decode b_F_times 211 = .ok (.lastore, 1) := by decide +kernel
theorem d_F_times_212 : decode b_F_times 212 = .ok (.aload_n 0, 1) := by decide +kernel
theorem d_F_times_213 : decode b_F_times 213 = .ok (.iconst 1, 1) := by decide +kernel
theorem d_F_times_214 : decode b_F_times 214 = .ok (.lload_n 3, 1) := by decide +kernel
theorem d_F_times_215 : decode b_F_times 215 = .ok (.lload 25, 2) := by decide +kernel
theorem d_F_times_217 : decode b_F_times 217 = .ok (.lmul, 1) := by decide +kernel
theorem d_F_times_218 : decode b_F_times 218 = .ok (.lload 5, 2) := by decide +kernel
theorem d_F_times_220 : decode b_F_times 220 = .ok (.lload 23, 2) := by decide +kernel
theorem d_F_times_222 : decode b_F_times 222 = .ok (.lmul, 1) := by decide +kernel
theorem d_F_times_223 : decode b_F_times 223 = .ok (.ladd, 1) := by decide +kernel
theorem d_F_times_224 : decode b_F_times 224 = .ok (.ldc2_w 51, 3) := by decide +kernel
theorem d_F_times_227 : decode b_F_times 227 = .ok (.lload 7, 2) := by decide +kernel
theorem d_F_times_229 : decode b_F_times 229 = .ok (.lload 41, 2) := by decide +kernel
theorem d_F_times_231 : decode b_F_times 231 = .ok (.lmul, 1) := by decide +kernel
theorem d_F_times_232 : decode b_F_times 232 = .ok (.lload 9, 2) := by decide +kernel
theorem d_F_times_234 : decode b_F_times 234 = .ok (.lload 39, 2) := by decide +kernel
theorem d_F_times_236 : decode b_F_times 236 = .ok (.lmul, 1) := by decide +kernel
theorem d_F_times_237 : decode b_F_times 237 = .ok (.ladd, 1) := by decide +kernel
theorem d_F_times_238 : decode b_F_times 238 = .ok (.lload 11, 2) := by decide +kernel
theorem d_F_times_240 : decode b_F_times 240 = .ok (.lload 37, 2) := by decide +kernel
theorem d_F_times_242 : decode b_F_times 242 = .ok (.lmul, 1) := by decide +kernel
theorem d_F_times_243 : decode b_F_times 243 = .ok (.ladd, 1) := by decide +kernel
theorem d_F_times_244 : decode b_F_times 244 = .ok (.lload 13, 2) := by decide +kernel
theorem d_F_times_246 : decode b_F_times 246 = .ok (.lload 35, 2) := by decide +kernel
theorem d_F_times_248 : decode b_F_times 248 = .ok (.lmul, 1) := by decide +kernel
theorem d_F_times_249 : decode b_F_times 249 = .ok (.ladd, 1) := by decide +kernel
theorem d_F_times_250 : decode b_F_times 250 = .ok (.lload 15, 2) := by decide +kernel
theorem d_F_times_252 : decode b_F_times 252 = .ok (.lload 33, 2) := by decide +kernel
theorem d_F_times_254 : decode b_F_times 254 = .ok (.lmul, 1) := by decide +kernel
theorem d_F_times_255 : decode b_F_times 255 = .ok (.ladd, 1) := by decide +kernel
theorem d_F_times_256 : decode b_F_times 256 = .ok (.lload 17, 2) := by decide +kernel
theorem d_F_times_258 : decode b_F_times 258 = .ok (.lload 31, 2) := by decide +kernel
theorem d_F_times_260 : decode b_F_times 260 = .ok (.lmul, 1) := by decide +kernel
theorem d_F_times_261 : decode b_F_times 261 = .ok (.ladd, 1) := by decide +kernel
theorem d_F_times_262 : decode b_F_times 262 = .ok (.lload 19, 2) := by decide +kernel
theorem d_F_times_264 : decode b_F_times 264 = .ok (.lload 29, 2) := by decide +kernel
theorem d_F_times_266 : decode b_F_times 266 = .ok (.lmul, 1) := by decide +kernel
theorem d_F_times_267 : decode b_F_times 267 = .ok (.ladd, 1) := by decide +kernel
theorem d_F_times_268 : decode b_F_times 268 = .ok (.lload 21, 2) := by decide +kernel
theorem d_F_times_270 : decode b_F_times 270 = .ok (.lload 27, 2) := by decide +kernel
theorem d_F_times_272 : decode b_F_times 272 = .ok (.lmul, 1) := by decide +kernel
theorem d_F_times_273 : decode b_F_times 273 = .ok (.ladd, 1) := by decide +kernel
theorem d_F_times_274 : decode b_F_times 274 = .ok (.lmul, 1) := by decide +kernel
theorem d_F_times_275 : decode b_F_times 275 = .ok (.ladd, 1) := by decide +kernel
theorem d_F_times_276 : decode b_F_times 276 = .ok (.lastore, 1) := by decide +kernel
theorem d_F_times_277 : decode b_F_times 277 = .ok (.aload_n 0, 1) := by decide +kernel
theorem d_F_times_278 : decode b_F_times 278 = .ok (.iconst 2, 1) := by decide +kernel
theorem d_F_times_279 : decode b_F_times 279 = .ok (.lload_n 3, 1) := by decide +kernel
theorem d_F_times_280 : decode b_F_times 280 = .ok (.lload 27, 2) := by decide +kernel
theorem d_F_times_282 : decode b_F_times 282 = .ok (.lmul, 1) := by decide +kernel
theorem d_F_times_283 : decode b_F_times 283 = .ok (.lload 43, 2) := by decide +kernel
theorem d_F_times_285 : decode b_F_times 285 = .ok (.lload 25, 2) := by decide +kernel
theorem d_F_times_287 : decode b_F_times 287 = .ok (.lmul, 1) := by decide +kernel
theorem d_F_times_288 : decode b_F_times 288 = .ok (.ladd, 1) := by decide +kernel
theorem d_F_times_289 : decode b_F_times 289 = .ok (.lload 7, 2) := by decide +kernel
theorem d_F_times_291 : decode b_F_times 291 = .ok (.lload 23, 2) := by decide +kernel
theorem d_F_times_293 : decode b_F_times 293 = .ok (.lmul, 1) := by decide +kernel
theorem d_F_times_294 : decode b_F_times 294 = .ok (.ladd, 1) := by decide +kernel
theorem d_F_times_295 : decode b_F_times 295 = .ok (.ldc2_w 51, 3) := by decide +kernel
theorem d_F_times_298 : decode b_F_times 298 = .ok (.lload 45, 2) := by decide +kernel
theorem d_F_times_300 : decode b_F_times 300 = .ok (.lload 41, 2) := by decide +kernel
theorem d_F_times_302 : decode b_F_times 302 = .ok (.lmul, 1) := by decide +kernel
theorem d_F_times_303 : decode b_F_times 303 = .ok (.lload 11, 2) := by decide +kernel
theorem d_F_times_305 : decode b_F_times 305 = .ok (.lload 39, 2) := by decide +kernel
theorem d_F_times_307 : decode b_F_times 307 = .ok (.lmul, 1) := by decide +kernel
theorem d_F_times_308 : decode b_F_times 308 = .ok (.ladd, 1) := by decide +kernel
theorem d_F_times_309 : decode b_F_times 309 = .ok (.lload 47, 2) := by decide +kernel
theorem d_F_times_311 : decode b_F_times 311 = .ok (.lload 37, 2) := by decide +kernel
theorem d_F_times_313 : decode b_F_times 313 = .ok (.lmul, 1) := by decide +kernel
theorem d_F_times_314 : decode b_F_times 314 = .ok (.ladd, 1) := by decide +kernel
theorem d_F_times_315 : decode b_F_times 315 = .ok (.lload 15, 2) := by decide +kernel
theorem d_F_times_317 : decode b_F_times 317 = .ok (.lload 35, 2) := by decide +kernel
theorem d_F_times_319 : decode b_F_times 319 = .ok (.lmul, 1) := by decide +kernel
theorem d_F_times_320 : decode b_F_times 320 = .ok (.ladd, 1) := by decide +kernel
theorem d_F_times_321 : decode b_F_times 321 = .ok (.lload 49, 2) := by decide +kernel
theorem d_F_times_323 : decode b_F_times 323 = .ok (.lload 33, 2) := by decide +kernel
theorem d_F_times_325 : decode b_F_times 325 = .ok (.lmul, 1) := by decide +kernel
theorem d_F_times_326 : decode b_F_times 326 = .ok (.ladd, 1) := by decide +kernel
theorem d_F_times_327 : decode b_F_times 327 = .ok (.lload 19, 2) := by decide +kernel
theorem d_F_times_329 : decode b_F_times 329 = .ok (.lload 31, 2) := by decide +kernel
theorem d_F_times_331 : decode b_F_times 331 = .ok (.lmul, 1) := by decide +kernel
theorem d_F_times_332 : decode b_F_times 332 = .ok (.ladd, 1) := by decide +kernel
theorem d_F_times_333 : decode b_F_times 333 = .ok (.lload 51, 2) := by decide +kernel
theorem d_F_times_335 : decode b_F_times 335 = .ok (.lload 29, 2) := by decide +kernel
theorem d_F_times_337 : decode b_F_times 337 = .ok (.lmul, 1) := by decide +kernel
theorem d_F_times_338 : decode b_F_times 338 = .ok (.ladd, 1) := by decide +kernel
theorem d_F_times_339 : decode b_F_times 339 = .ok (.lmul, 1) := by decide +kernel
theorem d_F_times_340 : decode b_F_times 340 = .ok (.ladd, 1) := by decide +kernel
theorem d_F_times_341 : decode b_F_times 341 = .ok (.lastore, 1) := by decide +kernel
theorem d_F_times_342 : decode b_F_times 342 = .ok (.aload_n 0, 1) := by decide +kernel
theorem d_F_times_343 : decode b_F_times 343 = .ok (.iconst 3, 1) := by decide +kernel
theorem d_F_times_344 : decode b_F_times 344 = .ok (.lload_n 3, 1) := by decide +kernel
theorem d_F_times_345 : decode b_F_times 345 = .ok (.lload 29, 2) := by decide +kernel
theorem d_F_times_347 : decode b_F_times 347 = .ok (.lmul, 1) := by decide +kernel
theorem d_F_times_348 : decode b_F_times 348 = .ok (.lload 5, 2) := by decide +kernel
theorem d_F_times_350 : decode b_F_times 350 = .ok (.lload 27, 2) := by decide +kernel
theorem d_F_times_352 : decode b_F_times 352 = .ok (.lmul, 1) := by decide +kernel
theorem d_F_times_353 : decode b_F_times 353 = .ok (.ladd, 1) := by decide +kernel
theorem d_F_times_354 : decode b_F_times 354 = .ok (.lload 7, 2) := by decide +kernel
theorem d_F_times_356 : decode b_F_times 356 = .ok (.lload 25, 2) := by decide +kernel
theorem d_F_times_358 : decode b_F_times 358 = .ok (.lmul, 1) := by decide +kernel
theorem d_F_times_359 : decode b_F_times 359 = .ok (.ladd, 1) := by decide +kernel
theorem d_F_times_360 : decode b_F_times 360 = .ok (.lload 9, 2) := by decide +kernel
theorem d_F_times_362 : decode b_F_times 362 = .ok (.lload 23, 2) := by decide +kernel
theorem d_F_times_364 : decode b_F_times 364 = .ok (.lmul, 1) := by decide +kernel
theorem d_F_times_365 : decode b_F_times 365 = .ok (.ladd, 1) := by decide +kernel
theorem d_F_times_366 : decode b_F_times 366 = .ok (.ldc2_w 51, 3) := by decide +kernel
theorem d_F_times_369 : decode b_F_times 369 = .ok (.lload 11, 2) := by decide +kernel
theorem d_F_times_371 : decode b_F_times 371 = .ok (.lload 41, 2) := by decide +kernel
theorem d_F_times_373 : decode b_F_times 373 = .ok (.lmul, 1) := by decide +kernel
theorem d_F_times_374 : decode b_F_times 374 = .ok (.lload 13, 2) := by decide +kernel
theorem d_F_times_376 : decode b_F_times 376 = .ok (.lload 39, 2) := by decide +kernel
theorem d_F_times_378 : decode b_F_times 378 = .ok (.lmul, 1) := by decide +kernel
theorem d_F_times_379 : decode b_F_times 379 = .ok (.ladd, 1) := by decide +kernel
theorem d_F_times_380 : decode b_F_times 380 = .ok (.lload 15, 2) := by decide +kernel
theorem d_F_times_382 : decode b_F_times 382 = .ok (.lload 37, 2) := by decide +kernel
theorem d_F_times_384 : decode b_F_times 384 = .ok (.lmul, 1) := by decide +kernel
theorem d_F_times_385 : decode b_F_times 385 = .ok (.ladd, 1) := by decide +kernel
theorem d_F_times_386 : decode b_F_times 386 = .ok (.lload 17, 2) := by decide +kernel
theorem d_F_times_388 : decode b_F_times 388 = .ok (.lload 35, 2) := by decide +kernel
theorem d_F_times_390 : decode b_F_times 390 = .ok (.lmul, 1) := by decide +kernel
theorem d_F_times_391 : decode b_F_times 391 = .ok (.ladd, 1) := by decide +kernel
theorem d_F_times_392 : decode b_F_times 392 = .ok (.lload 19, 2) := by decide +kernel
theorem d_F_times_394 : decode b_F_times 394 = .ok (.lload 33, 2) := by decide +kernel
theorem d_F_times_396 : decode b_F_times 396 = .ok (.lmul, 1) := by decide +kernel
theorem d_F_times_397 : decode b_F_times 397 = .ok (.ladd, 1) := by decide +kernel
theorem d_F_times_398 : decode b_F_times 398 = .ok (.lload 21, 2) := by decide +kernel
