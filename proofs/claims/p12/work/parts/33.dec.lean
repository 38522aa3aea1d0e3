theorem d_F_square_0 : decode b_F_square 0 = .ok (.aload_n 1, 1) := by decide +kernel
theorem d_F_square_1 : decode b_F_square 1 = .ok (.iconst 0, 1) := by decide +kernel
theorem d_F_square_2 : decode b_F_square 2 = .ok (.laload, 1) := by decide +kernel
theorem d_F_square_3 : decode b_F_square 3 = .ok (.lstore_n 2, 1) := by decide +kernel
theorem d_F_square_4 : decode b_F_square 4 = .ok (.aload_n 1, 1) := by decide +kernel
theorem d_F_square_5 : decode b_F_square 5 = .ok (.iconst 1, 1) := by decide +kernel
theorem d_F_square_6 : decode b_F_square 6 = .ok (.laload, 1) := by decide +kernel
theorem d_F_square_7 : decode b_F_square 7 = .ok (.lstore 4, 2) := by decide +kernel
theorem d_F_square_9 : decode b_F_square 9 = .ok (.aload_n 1, 1) := by decide +kernel
theorem d_F_square_10 : decode b_F_square 10 = .ok (.iconst 2, 1) := by decide +kernel
theorem d_F_square_11 : decode b_F_square 11 = .ok (.laload, 1) := by decide +kernel
theorem d_F_square_12 : decode b_F_square 12 = .ok (.lstore 6, 2) := by decide +kernel
theorem d_F_square_14 : decode b_F_square 14 = .ok (.aload_n 1, 1) := by decide +kernel
theorem d_F_square_15 : decode b_F_square 15 = .ok (.iconst 3, 1) := by decide +kernel
theorem d_F_square_16 : decode b_F_square 16 = .ok (.laload, 1) := by decide +kernel
theorem d_F_square_17 : decode b_F_square 17 = .ok (.lstore 8, 2) := by decide +kernel
theorem d_F_square_19 : decode b_F_square 19 = .ok (.aload_n 1, 1) := by decide +kernel
theorem d_F_square_20 : decode b_F_square 20 = .ok (.iconst 4, 1) := by decide +kernel
theorem d_F_square_21 : decode b_F_square 21 = .ok (.laload, 1) := by decide +kernel
theorem d_F_square_22 : decode b_F_square 22 = .ok (.lstore 10, 2) := by decide +kernel
theorem d_F_square_24 : decode b_F_square 24 = .ok (.aload_n 1, 1) := by decide +kernel
theorem d_F_square_25 : decode b_F_square 25 = .ok (.iconst 5, 1) := by decide +kernel
theorem d_F_square_26 : decode b_F_square 26 = .ok (.laload, 1) := by decide +kernel
theorem d_F_square_27 : decode b_F_square 27 = .ok (.lstore 12, 2) := by decide +kernel
theorem d_F_square_29 : decode b_F_square 29 = .ok (.aload_n 1, 1) := by decide +kernel
theorem d_F_square_30 : decode b_F_square 30 = .ok (.bipush 6, 2) := by decide +kernel
theorem d_F_square_32 : decode b_F_square 32 = .ok (.laload, 1) := by decide +kernel
theorem d_F_square_33 : decode b_F_square 33 = .ok (.lstore 14, 2) := by decide +kernel
theorem d_F_square_35 : decode b_F_square 35 = .ok (.aload_n 1, 1) := by decide +kernel
theorem d_F_square_36 : decode b_F_square 36 = .ok (.bipush 7, 2) := by decide +kernel
theorem d_F_square_38 : decode b_F_square 38 = .ok (.laload, 1) := by decide +kernel
theorem d_F_square_39 : decode b_F_square 39 = .ok (.lstore 16, 2) := by decide +kernel
theorem d_F_square_41 : decode b_F_square 41 = .ok (.aload_n 1, 1) := by decide +kernel
theorem d_F_square_42 : decode b_F_square 42 = .ok (.bipush 8, 2) := by decide +kernel
theorem d_F_square_44 : decode b_F_square 44 = .ok (.laload, 1) := by decide +kernel
theorem d_F_square_45 : decode b_F_square 45 = .ok (.lstore 18, 2) := by decide +kernel
theorem d_F_square_47 : decode b_F_square 47 = .ok (.aload_n 1, 1) := by decide +kernel
theorem d_F_square_48 : decode b_F_square 48 = .ok (.bipush 9, 2) := by decide +kernel
theorem d_F_square_50 : decode b_F_square 50 = .ok (.laload, 1) := by decide +kernel
theorem d_F_square_51 : decode b_F_square 51 = .ok (.lstore 20, 2) := by decide +kernel
theorem d_F_square_53 : decode b_F_square 53 = .ok (.ldc2_w 49, 3) := by decide +kernel
theorem d_F_square_56 : decode b_F_square 56 = .ok (.lload_n 2, 1) := by decide +kernel
theorem d_F_square_57 : decode b_F_square 57 = .ok (.lmul, 1) := by decide +kernel
theorem d_F_square_58 : decode b_F_square 58 = .ok (.lstore 22, 2) := by decide +kernel
theorem d_F_square_60 : decode b_F_square 60 = .ok (.ldc2_w 49, 3) := by decide +kernel
theorem d_F_square_63 : decode b_F_square 63 = .ok (.lload 4, 2) := by decide +kernel
theorem d_F_square_65 : decode b_F_square 65 = .ok (.lmul, 1) := by decide +kernel
theorem d_F_square_66 : decode b_F_square 66 = .ok (.lstore 24, 2) := by decide +kernel
theorem d_F_square_68 : decode b_F_square 68 = .ok (.ldc2_w 49, 3) := by decide +kernel
theorem d_F_square_71 : decode b_F_square 71 = .ok (.lload 6, 2) := by decide +kernel
theorem d_F_square_73 : decode b_F_square 73 = .ok (.lmul, 1) := by decide +kernel
theorem d_F_square_74 : decode b_F_square 74 = .ok (.lstore 26, 2) := by decide +kernel
theorem d_F_square_76 : decode b_F_square 76 = .ok (.ldc2_w 49, 3) := by decide +kernel
theorem d_F_square_79 : decode b_F_square 79 = .ok (.lload 8, 2) := by decide +kernel
theorem d_F_square_81 : decode b_F_square 81 = .ok (.lmul, 1) := by decide +kernel
theorem d_F_square_82 : decode b_F_square 82 = .ok (.lstore 28, 2) := by decide +kernel
theorem d_F_square_84 : decode b_F_square 84 = .ok (.ldc2_w 49, 3) := by decide +kernel
theorem d_F_square_87 : decode b_F_square 87 = .ok (.lload 10, 2) := by decide +kernel
theorem d_F_square_89 : decode b_F_square 89 = .ok (.lmul, 1) := by decide +kernel
theorem d_F_square_90 : decode b_F_square 90 = .ok (.lstore 30, 2) := by decide +kernel
theorem d_F_square_92 : decode b_F_square 92 = .ok (.ldc2_w 49, 3) := by decide +kernel
theorem d_F_square_95 : decode b_F_square 95 = .ok (.lload 12, 2) := by decide +kernel
theorem d_F_square_97 : decode b_F_square 97 = .ok (.lmul, 1) := by decide +kernel
theorem d_F_square_98 : decode b_F_square 98 = .ok (.lstore 32, 2) := by decide +kernel
theorem d_F_square_100 : decode b_F_square 100 = .ok (.ldc2_w 49, 3) := by decide +kernel
theorem d_F_square_103 : decode b_F_square 103 = .ok (.lload 14, 2) := by decide +kernel
theorem d_F_square_105 : decode b_F_square 105 = .ok (.lmul, 1) := by decide +kernel
theorem d_F_square_106 : decode b_F_square 106 = .ok (.lstore 34, 2) := by decide +kernel
theorem d_F_square_108 : decode b_F_square 108 = .ok (.ldc2_w 49, 3) := by decide +kernel
theorem d_F_square_111 : decode b_F_square 111 = .ok (.lload 16, 2) := by decide +kernel
theorem d_F_square_113 : decode b_F_square 113 = .ok (.lmul, 1) := by decide +kernel
theorem d_F_square_114 : decode b_F_square 114 = .ok (.lstore 36, 2) := by decide +kernel
theorem d_F_square_116 : decode b_F_square 116 = .ok (.ldc2_w 49, 3) := by decide +kernel
theorem d_F_square_119 : decode b_F_square 119 = .ok (.lload 18, 2) := by decide +kernel
theorem d_F_square_121 : decode b_F_square 121 = .ok (.lmul, 1) := by decide +kernel
theorem d_F_square_122 : decode b_F_square 122 = .ok (.lstore 38, 2) := by decide +kernel
theorem d_F_square_124 : decode b_F_square 124 = .ok (.ldc2_w 49, 3) := by decide +kernel
theorem d_F_square_127 : decode b_F_square 127 = .ok (.lload 20, 2) := by decide +kernel
theorem d_F_square_129 : decode b_F_square 129 = .ok (.lmul, 1) := by decide +kernel
theorem d_F_square_130 : decode b_F_square 130 = .ok (.lstore 40, 2) := by decide +kernel
theorem d_F_square_132 : decode b_F_square 132 = .ok (.aload_n 0, 1) := by decide +kernel
theorem d_F_square_133 : decode b_F_square 133 = .ok (.iconst 0, 1) := by decide +kernel
theorem d_F_square_134 : decode b_F_square 134 = .ok (.lload_n 2, 1) := by decide +kernel
theorem d_F_square_135 : decode b_F_square 135 = .ok (.lload_n 2, 1) := by decide +kernel
theorem d_F_square_136 : decode b_F_square 136 = .ok (.lmul, 1) := by decide +kernel
theorem d_F_square_137 : decode b_F_square 137 = .ok (.ldc2_w 51, 3) := by decide +kernel
theorem d_F_square_140 : decode b_F_square 140 = .ok (.lload 24, 2) := by decide +kernel
theorem d_F_square_142 : decode b_F_square 142 = .ok (.lload 40, 2) := by decide +kernel
theorem d_F_square_144 : decode b_F_square 144 = .ok (.lmul, 1) := by decide +kernel
theorem d_F_square_145 : decode b_F_square 145 = .ok (.lload 26, 2) := by decide +kernel
theorem d_F_square_147 : decode b_F_square 147 = .ok (.lload 18, 2) := by decide +kernel
theorem d_F_square_149 : decode b_F_square 149 = .ok (.lmul, 1) := by decide +kernel
theorem d_F_square_150 : decode b_F_square 150 = .ok (.ladd, 1) := by decide +kernel
theorem d_F_square_151 : decode b_F_square 151 = .ok (.lload 28, 2) := by decide +kernel
theorem d_F_square_153 : decode b_F_square 153 = .ok (.lload 36, 2) := by decide +kernel
theorem d_F_square_155 : decode b_F_square 155 = .ok (.lmul, 1) := by decide +kernel
theorem d_F_square_156 : decode b_F_square 156 = .ok (.ladd, 1) := by decide +kernel
theorem d_F_square_157 : decode b_F_square 157 = .ok (.lload 30, 2) := by decide +kernel
theorem d_F_square_159 : decode b_F_square 159 = .ok (.lload 14, 2) := by decide +kernel
theorem d_F_square_161 : decode b_F_square 161 = .ok (.lmul, 1) := by decide +kernel
theorem d_F_square_162 : decode b_F_square 162 = .ok (.ladd, 1) := by decide +kernel
theorem d_F_square_163 : decode b_F_square 163 = .ok (.lload 12, 2) := by decide +kernel
theorem d_F_square_165 : decode b_F_square 165 = .ok (.lload 32, 2) := by decide +kernel
theorem d_F_square_167 : decode b_F_square 167 = .ok (.lmul, 1) := by decide +kernel
theorem d_F_square_168 : decode b_F_square 168 = .ok (.ladd, 1) := by decide +kernel
theorem d_F_square_169 : decode b_F_square 169 = .ok (.lmul, 1) := by decide +kernel
theorem d_F_square_170 : decode b_F_square 170 = .ok (.ladd, 1) := by decide +kernel
theorem d_F_square_171 : decode b_F_square 171 = .ok (.lastore, 1) := by decide +kernel
theorem d_F_square_172 : decode b_F_square 172 = .ok (.aload_n 0, 1) := by decide +kernel
theorem d_F_square_173 : decode b_F_square 173 = .ok (.iconst 1, 1) := by decide +kernel
theorem d_F_square_174 : decode b_F_square 174 = .ok (.lload 22, 2) := by decide +kernel
theorem d_F_square_176 : decode b_F_square 176 = .ok (.lload 4, 2) := by decide +kernel
theorem d_F_square_178 : decode b_F_square 178 = .ok (.lmul, 1) := by decide +kernel
theorem d_F_square_179 : decode b_F_square 179 = .ok (.ldc2_w 51, 3) := by decide +kernel
theorem d_F_square_182 : decode b_F_square 182 = .ok (.lload 26, 2) := by decide +kernel
theorem d_F_square_184 : decode b_F_square 184 = .ok (.lload 20, 2) := by decide +kernel
theorem d_F_square_186 : decode b_F_square 186 = .ok (.lmul, 1) := by decide +kernel
theorem d_F_square_187 : decode b_F_square 187 = .ok (.lload 28, 2) := by decide +kernel
theorem d_F_square_189 : decode b_F_square 189 = .ok (.lload 18, 2) := by decide +kernel
theorem d_F_square_191 : decode b_F_square 191 = .ok (.lmul, 1) := by decide +kernel
theorem d_F_square_192 : decode b_F_square 192 = .ok (.ladd, 1) := by decide +kernel
theorem d_F_square_193 : decode b_F_square 193 = .ok (.lload 30, 2) := by decide +kernel
theorem d_F_square_195 : decode b_F_square 195 = .ok (.lload 16, 2) := by decide +kernel
theorem d_F_square_197 : decode b_F_square 197 = .ok (.lmul, 1) := by decide +kernel
theorem d_F_square_198 : decode b_F_square 198 = .ok (.ladd, 1) := by decide +kernel
theorem d_F_square_199 : decode b_F_square 199 = .ok (.lload 32, 2) := by decide +kernel
theorem d_F_square_201 : decode b_F_square 201 = .ok (.lload 14, 2) := by decide +kernel
theorem d_F_square_203 : decode b_F_square 203 = .ok (.lmul, 1) := by decide +kernel
theorem d_F_square_204 : decode b_F_square 204 = .ok (.ladd, 1) := by decide +kernel
theorem d_F_square_205 : decode b_F_square 205 = .ok (.lmul, 1) := by decide +kernel
theorem d_F_square_206 : decode b_F_square 206 = .ok (.ladd, 1) := by decide +kernel
theorem d_F_square_207 : decode b_F_square 207 = .ok (.lastore, 1) := by decide +kernel
theorem d_F_square_208 : decode b_F_square 208 = .ok (.aload_n 0, 1) := by decide +kernel
theorem d_F_square_209 : decode b_F_square 209 = .ok (.iconst 2, 1) := by decide +kernel
theorem d_F_square_210 : decode b_F_square 210 = .ok (.lload 22, 2) := by decide +kernel
theorem d_F_square_212 : decode b_F_square 212 = .ok (.lload 6, 2) := by decide +kernel
theorem d_F_square_214 : decode b_F_square 214 = .ok (.lmul, 1) := by decide +kernel
theorem d_F_square_215 : decode b_F_square 215 = .ok (.lload 24, 2) := by decide +kernel
theorem d_F_square_217 : decode b_F_square 217 = .ok (.lload 4, 2) := by decide +kernel
theorem d_F_square_219 : decode b_F_square 219 = .ok (.lmul, 1) := by decide +kernel
theorem d_F_square_220 : decode b_F_square 220 = .ok (.ladd, 1) := by decide +kernel
theorem d_F_square_221 : decode b_F_square 221 = .ok (.ldc2_w 51, 3) := by decide +kernel
theorem d_F_square_224 : decode b_F_square 224 = .ok (.lload 28, 2) := by decide +kernel
theorem d_F_square_226 : decode b_F_square 226 = .ok (.lload 40, 2) := by decide +kernel
theorem d_F_square_228 : decode b_F_square 228 = .ok (.lmul, 1) := by decide +kernel
theorem d_F_square_229 : decode b_F_square 229 = .ok (.lload 30, 2) := by decide +kernel
theorem d_F_square_231 : decode b_F_square 231 = .ok (.lload 18, 2) := by decide +kernel
theorem d_F_square_233 : decode b_F_square 233 = .ok (.lmul, 1) := by decide +kernel
theorem d_F_square_234 : decode b_F_square 234 = .ok (.ladd, 1) := by decide +kernel
theorem d_F_square_235 : decode b_F_square 235 = .ok (.lload 32, 2) := by decide +kernel
theorem d_F_square_237 : decode b_F_square 237 = .ok (.lload 36, 2) := by decide +kernel
theorem d_F_square_239 : decode b_F_square 239 = .ok (.lmul, 1) := by decide +kernel
theorem d_F_square_240 : decode b_F_square 240 = .ok (.ladd, 1) := by decide +kernel
theorem d_F_square_241 : decode b_F_square 241 = .ok (.lload 14, 2) := by decide +kernel
theorem d_F_square_243 : decode b_F_square 243 = .ok (.lload 14, 2) := by decide +kernel
theorem d_F_square_245 : decode b_F_square 245 = .ok (.lmul, 1) := by decide +kernel
theorem d_F_square_246 : decode b_F_square 246 = .ok (.ladd, 1) := by decide +kernel
theorem d_F_square_247 : decode b_F_square 247 = .ok (.lmul, 1) := by decide +kernel
theorem d_F_square_248 : decode b_F_square 248 = .ok (.ladd, 1) := by decide +kernel
theorem d_F_square_249 : decode b_F_square 249 = .ok (.lastore, 1) := by decide +kernel
theorem d_F_square_250 : decode b_F_square 250 = .ok (.aload_n 0, 1) := by decide +kernel
theorem d_F_square_251 : decode b_F_square 251 = .ok (.iconst 3, 1) := by decide +kernel
theorem d_F_square_252 : decode b_F_square 252 = .ok (.lload 22, 2) := by decide +kernel
theorem d_F_square_254 : decode b_F_square 254 = .ok (.lload 8, 2) := by decide +kernel
theorem d_F_square_256 : decode b_F_square 256 = .ok (.lmul, 1) := by decide +kernel
theorem d_F_square_257 : decode b_F_square 257 = .ok (.lload 24, 2) := by decide +kernel
theorem d_F_square_259 : decode b_F_square 259 = .ok (.lload 6, 2) := by decide +kernel
theorem d_F_square_261 : decode b_F_square 261 = .ok (.lmul, 1) := by decide +kernel
theorem d_F_square_262 : decode b_F_square 262 = .ok (.ladd, 1) := by decide +kernel
theorem d_F_square_263 : decode b_F_square 263 = .ok (.ldc2_w 51, 3) := by decide +kernel
theorem d_F_square_266 : decode b_F_square 266 = .ok (.lload 30, 2) := by decide +kernel
theorem d_F_square_268 : decode b_F_square 268 = .ok (.lload 20, 2) := by decide +kernel
theorem d_F_square_270 : decode b_F_square 270 = .ok (.lmul, 1) := by decide +kernel
theorem d_F_square_271 : decode b_F_square 271 = .ok (.lload 32, 2) := by decide +kernel
theorem d_F_square_273 : decode b_F_square 273 = .ok (.lload 18, 2) := by decide +kernel
theorem d_F_square_275 : decode b_F_square 275 = .ok (.lmul, 1) := by decide +kernel
theorem d_F_square_276 : decode b_F_square 276 = .ok (.ladd, 1) := by decide +kernel
theorem d_F_square_277 : decode b_F_square 277 = .ok (.lload 34, 2) := by decide +kernel
theorem d_F_square_279 : decode b_F_square 279 = .ok (.lload 16, 2) := by decide +kernel
theorem d_F_square_281 : decode b_F_square 281 = .ok (.lmul, 1) := by decide +kernel
theorem d_F_square_282 : decode b_F_square 282 = .ok (.ladd, 1) := by decide +kernel
theorem d_F_square_283 : decode b_F_square 283 = .ok (.lmul, 1) := by decide +kernel
theorem d_F_square_284 : decode b_F_square 284 = .ok (.ladd, 1) := by decide +kernel
theorem d_F_square_285 : decode b_F_square 285 = .ok (.lastore, 1) := by decide +kernel
theorem d_F_square_286 : decode b_F_square 286 = .ok (.aload_n 0, 1) := by decide +kernel
theorem d_F_square_287 : decode b_F_square 287 = .ok (.iconst 4, 1) := by decide +kernel
theorem d_F_square_288 : decode b_F_square 288 = .ok (.lload 22, 2) := by decide +kernel
theorem d_F_square_290 : decode b_F_square 290 = .ok (.lload 10, 2) := by decide +kernel
theorem d_F_square_292 : decode b_F_square 292 = .ok (.lmul, 1) := by decide +kernel
theorem d_F_square_293 : decode b_F_square 293 = .ok (.lload 24, 2) := by decide +kernel
theorem d_F_square_295 : decode b_F_square 295 = .ok (.lload 28, 2) := by decide +kernel
theorem d_F_square_297 : decode b_F_square 297 = .ok (.lmul, 1) := by decide +kernel
theorem d_F_square_298 : decode b_F_square 298 = .ok (.ladd, 1) := by decide +kernel
theorem d_F_square_299 : decode b_F_square 299 = .ok (.lload 6, 2) := by decide +kernel
theorem d_F_square_301 : decode b_F_square 301 = .ok (.lload 6, 2) := by decide +kernel
theorem d_F_square_303 : decode b_F_square 303 = .ok (.lmul, 1) := by decide +kernel
theorem d_F_square_304 : decode b_F_square 304 = .ok (.ladd, 1) := by decide +kernel
theorem d_F_square_305 : decode b_F_square 305 = .ok (.ldc2_w 51, 3) := by decide +kernel
theorem d_F_square_308 : decode b_F_square 308 = .ok (.lload 32, 2) := by decide +kernel
theorem d_F_square_310 : decode b_F_square 310 = .ok (.lload 40, 2) := by decide +kernel
theorem d_F_square_312 : decode b_F_square 312 = .ok (.lmul, 1) := by decide +kernel
theorem d_F_square_313 : decode b_F_square 313 = .ok (.lload 34, 2) := by decide +kernel
theorem d_F_square_315 : decode b_F_square 315 = .ok (.lload 18, 2) := by decide +kernel
theorem d_F_square_317 : decode b_F_square 317 = .ok (.lmul, 1) := by decide +kernel
theorem d_F_square_318 : decode b_F_square 318 = .ok (.ladd, 1) := by decide +kernel
theorem d_F_square_319 : decode b_F_square 319 = .ok (.lload 16, 2) := by decide +kernel
theorem d_F_square_321 : decode b_F_square 321 = .ok (.lload 36, 2) := by decide +kernel
theorem d_F_square_323 : decode b_F_square 323 = .ok (.lmul, 1) := by decide +kernel
theorem d_F_square_324 : decode b_F_square 324 = .ok (.ladd, 1) := by decide +kernel
theorem d_F_square_325 : decode b_F_square 325 = .ok (.lmul, 1) := by decide +kernel
theorem d_F_square_326 : decode b_F_square 326 = .ok (.ladd, 1) := by decide +kernel
theorem d_F_square_327 : decode b_F_square 327 = .ok (.lastore, 1) := by decide +kernel
theorem d_F_square_328 : decode b_F_square 328 = .ok (.aload_n 0, 1) := by decide +kernel
theorem d_F_square_329 : decode b_F_square 329 = .ok (.iconst 5, 1) := by decide +kernel
theorem d_F_square_330 : decode b_F_square 330 = .ok (.lload 22, 2) := by decide +kernel
theorem d_F_square_332 : decode b_F_square 332 = .ok (.lload 12, 2) := by decide +kernel
theorem d_F_square_334 : decode b_F_square 334 = .ok (.lmul, 1) := by decide +kernel
theorem d_F_square_335 : decode b_F_square 335 = .ok (.lload 24, 2) := by decide +kernel
theorem d_F_square_337 : decode b_F_square 337 = .ok (.lload 10, 2) := by decide +kernel
theorem d_F_square_339 : decode b_F_square 339 = .ok (.lmul, 1) := by decide +kernel
theorem d_F_square_340 : decode b_F_square 340 = .ok (.ladd, 1) := by decide +kernel
theorem d_F_square_341 : decode b_F_square 341 = .ok (.lload 26, 2) := by decide +kernel
theorem d_F_square_343 : decode b_F_square 343 = .ok (.lload 8, 2) := by decide +kernel
theorem d_F_square_345 : decode b_F_square 345 = .ok (.lmul, 1) := by decide +kernel
theorem d_F_square_346 : decode b_F_square 346 = .ok (.ladd, 1) := by decide +kernel
theorem d_F_square_347 : decode b_F_square 347 = .ok (.ldc2_w 51, 3) := by decide +kernel
theorem d_F_square_350 : decode b_F_square 350 = .ok (.lload 34, 2) := by decide +kernel
theorem d_F_square_352 : decode b_F_square 352 = .ok (.lload 20, 2) := by decide +kernel
theorem d_F_square_354 : decode b_F_square 354 = .ok (.lmul, 1) := by decide +kernel
theorem d_F_square_355 : decode b_F_square 355 = .ok (.lload 36, 2) := by decide +kernel
theorem d_F_square_357 : decode b_F_square 357 = .ok (.lload 18, 2) := by decide +kernel
theorem d_F_square_359 : decode b_F_square 359 = .ok (.lmul, 1) := by decide +kernel
theorem d_F_square_360 : decode b_F_square 360 = .ok (.ladd, 1) := by decide +kernel
theorem d_F_square_361 : decode b_F_square 361 = .ok (.lmul, 1) := by decide +kernel
theorem d_F_square_362 : decode b_F_square 362 = .ok (.ladd, 1) := by decide +kernel
theorem d_F_square_363 : decode b_F_square 363 = .ok (.lastore, 1) := by decide +kernel
theorem d_F_square_364 : decode b_F_square 364 = .ok (.aload_n 0, 1) := by decide +kernel
theorem d_F_square_365 : decode b_F_square 365 = .ok (.bipush 6, 2) := by decide +kernel
theorem d_F_square_367 : decode b_F_square 367 = .ok (.lload 22, 2) := by decide +kernel
theorem d_F_square_369 : decode b_F_square 369 = .ok (.lload 14, 2) := by decide +kernel
theorem d_F_square_371 : decode b_F_square 371 = .ok (.lmul, 1) := by decide +kernel
theorem d_F_square_372 : decode b_F_square 372 = .ok (.lload 24, 2) := by decide +kernel
theorem d_F_square_374 : decode b_F_square 374 = .ok (.lload 32, 2) := by decide +kernel
theorem d_F_square_376 : decode b_F_square 376 = .ok (.lmul, 1) := by decide +kernel
theorem d_F_square_377 : decode b_F_square 377 = .ok (.ladd, 1) := by decide +kernel
theorem d_F_square_378 : decode b_F_square 378 = .ok (.lload 26, 2) := by decide +kernel
theorem d_F_square_380 : decode b_F_square 380 = .ok (.lload 10, 2) := by decide +kernel
theorem d_F_square_382 : decode b_F_square 382 = .ok (.lmul, 1) := by decide +kernel
theorem d_F_square_383 : decode b_F_square 383 = .ok (.ladd, 1) := by decide +kernel
theorem d_F_square_384 : decode b_F_square 384 = .ok (.lload 28, 2) := by decide +kernel
theorem d_F_square_386 : decode b_F_square 386 = .ok (.lload 8, 2) := by decide +kernel
theorem d_F_square_388 : decode b_F_square 388 = .ok (.lmul, 1) := by decide +kernel
theorem d_F_square_389 : decode b_F_square 389 = .ok (.ladd, 1) := by decide +kernel
theorem d_F_square_390 : decode b_F_square 390 = .ok (.ldc2_w 51, 3) := by decide +kernel
theorem d_F_square_393 : decode b_F_square 393 = .ok (.lload 36, 2) := by decide +kernel
theorem d_F_square_395 : decode b_F_square 395 = .ok (.lload 40, 2) := by decide +kernel
theorem d_F_square_397 : decode b_F_square 397 = .ok (.lmul, 1) := by decide +kernel
theorem d_F_square_398 : decode b_F_square 398 = .ok (.lload 18, 2) := by decide +kernel
theorem d_F_square_400 : decode b_F_square 400 = .ok (.lload 18, 2) := by decide +kernel
theorem d_F_square_402 : decode b_F_square 402 = .ok (.lmul, 1) := by decide +kernel
theorem d_F_square_403 : decode b_F_square 403 = .ok (.ladd, 1) := by decide +kernel
theorem d_F_square_404 : decode b_F_square 404 = .ok (.lmul, 1) := by decide +kernel
theorem d_F_square_405 : decode b_F_square 405 = .ok (.ladd, 1) := by decide +kernel
theorem d_F_square_406 : decode b_F_square 406 = .ok (.lastore, 1) := by decide +kernel
theorem d_F_square_407 : decode b_F_square 407 = .ok (.aload_n 0, 1) := by decide +kernel
theorem d_F_square_408 : decode b_F_square 408 = .ok (.bipush 7, 2) := by decide +kernel
theorem d_F_square_410 : decode b_F_square 410 = .ok (.lload 22, 2) := by decide +kernel
theorem d_F_square_412 : decode b_F_square 412 = .ok (.lload 16, 2) := by decide +kernel
theorem d_F_square_414 : decode b_F_square 414 = .ok (.lmul, 1) := by decide +kernel
theorem d_F_square_415 : decode b_F_square 415 = .ok (.lload 24, 2) := by decide +kernel
theorem d_F_square_417 : decode b_F_square 417 = .ok (.lload 14, 2) := by decide +kernel
theorem d_F_square_419 : decode b_F_square 419 = .ok (.lmul, 1) := by decide +kernel
theorem d_F_square_420 : decode b_F_square 420 = .ok (.ladd, 1) := by decide +kernel
theorem d_F_square_421 : decode b_F_square 421 = .ok (.lload 26, 2) := by decide +kernel
theorem d_F_square_423 : decode b_F_square 423 = .ok (.lload 12, 2) := by decide +kernel
theorem d_F_square_425 : decode b_F_square 425 = .ok (.lmul, 1) := by decide +kernel
theorem d_F_square_426 : decode b_F_square 426 = .ok (.ladd, 1) := by decide +kernel
theorem d_F_square_427 : decode b_F_square 427 = .ok (.lload 28, 2) := by decide +kernel
theorem d_F_square_429 : decode b_F_square 429 = .ok (.lload 10, 2) := by decide +kernel
theorem d_F_square_431 : decode b_F_square 431 = .ok (.lmul, 1) := by decide +kernel
theorem d_F_square_432 : decode b_F_square 432 = .ok (.ladd, 1) := by decide +kernel
theorem d_F_square_433 : decode b_F_square 433 = .ok (.ldc2_w 51, 3) := by decide +kernel
theorem d_F_square_436 : decode b_F_square 436 = .ok (.lload 38, 2) := by decide +kernel
theorem d_F_square_438 : decode b_F_square 438 = .ok (.lload 20, 2) := by decide +kernel
theorem d_F_square_440 : decode b_F_square 440 = .ok (.lmul, 1) := by decide +kernel
theorem d_F_square_441 : decode b_F_square 441 = .ok (.lmul, 1) := by decide +kernel
theorem d_F_square_442 : decode b_F_square 442 = .ok (.ladd, 1) := by decide +kernel
theorem d_F_square_443 : decode b_F_square 443 = .ok (.lastore, 1) := by decide +kernel
theorem d_F_square_444 : decode b_F_square 444 = .ok (.aload_n 0, 1) := by decide +kernel
theorem d_F_square_445 : decode b_F_square 445 = .ok (.bipush 8, 2) := by decide +kernel
theorem d_F_square_447 : decode b_F_square 447 = .ok (.lload 22, 2) := by decide +kernel
theorem d_F_square_449 : decode b_F_square 449 = .ok (.lload 18, 2) := by decide +kernel
theorem d_F_square_451 : decode b_F_square 451 = .ok (.lmul, 1) := by decide +kernel
theorem d_F_square_452 : decode b_F_square 452 = .ok (.lload 24, 2) := by decide +kernel
theorem d_F_square_454 : decode b_F_square 454 = .ok (.lload 36, 2) := by decide +kernel
theorem d_F_square_456 : decode b_F_square 456 = .ok (.lmul, 1) := by decide +kernel
theorem d_F_square_457 : decode b_F_square 457 = .ok (.ladd, 1) := by decide +kernel
theorem d_F_square_458 : decode b_F_square 458 = .ok (.lload 26, 2) := by decide +kernel
theorem d_F_square_460 : decode b_F_square 460 = .ok (.lload 14, 2) := by decide +kernel
theorem d_F_square_462 : decode b_F_square 462 = .ok (.lmul, 1) := by decide +kernel
theorem d_F_square_463 : decode b_F_square 463 = .ok (.ladd, 1) := by decide +kernel
theorem d_F_square_464 : decode b_F_square 464 = .ok (.lload 28, 2) := by decide +kernel
theorem d_F_square_466 : decode b_F_square 466 = .ok (.lload 32, 2) := by decide +kernel
theorem d_F_square_468 : decode b_F_square 468 = .ok (.lmul, 1) := by decide +kernel
theorem d_F_square_469 : decode b_F_square 469 = .ok (.ladd, 1) := by decide +kernel
theorem d_F_square_470 : decode b_F_square 470 = .ok (.lload 10, 2) := by decide +kernel
theorem d_F_square_472 : decode b_F_square 472 = .ok (.lload 10, 2) := by decide +kernel
theorem d_F_square_474 : decode b_F_square 474 = .ok (.lmul, 1) := by decide +kernel
theorem d_F_square_475 : decode b_F_square 475 = .ok (.ladd, 1) := by decide +kernel
theorem d_F_square_476 : decode b_F_square 476 = .ok (.ldc2_w 51, 3) := by decide +kernel
theorem d_F_square_479 : decode b_F_square 479 = .ok (.lload 20, 2) := by decide +kernel
theorem d_F_square_481 : decode b_F_square 481 = .ok (.lload 40, 2) := by decide +kernel
theorem d_F_square_483 : decode b_F_square 483 = .ok (.lmul, 1) := by decide +kernel
theorem d_F_square_484 : decode b_F_square 484 = .ok (.lmul, 1) := by decide +kernel
theorem d_F_square_485 : decode b_F_square 485 = .ok (.ladd, 1) := by decide +kernel
theorem d_F_square_486 : decode b_F_square 486 = .ok (.lastore, 1) := by decide +kernel
theorem d_F_square_487 : decode b_F_square 487 = .ok (.aload_n 0, 1) := by decide +kernel
theorem d_F_square_488 : decode b_F_square 488 = .ok (.bipush 9, 2) := by decide +kernel
theorem d_F_square_490 : decode b_F_square 490 = .ok (.lload 22, 2) := by decide +kernel
theorem d_F_square_492 : decode b_F_square 492 = .ok (.lload 20, 2) := by decide +kernel
theorem d_F_square_494 : decode b_F_square 494 = .ok (.lmul, 1) := by decide +kernel
theorem d_F_square_495 : decode b_F_square 495 = .ok (.lload 24, 2) := by decide +kernel
theorem d_F_square_497 : decode b_F_square 497 = .ok (.lload 18, 2) := by decide +kernel
theorem d_F_square_499 : decode b_F_square 499 = .ok (.lmul, 1) := by decide +kernel
theorem d_F_square_500 : decode b_F_square 500 = .ok (.ladd, 1) := by decide +kernel
theorem d_F_square_501 : decode b_F_square 501 = .ok (.lload 26, 2) := by decide +kernel
theorem d_F_square_503 : decode b_F_square 503 = .ok (.lload 16, 2) := by decide +kernel
theorem d_F_square_505 : decode b_F_square 505 = .ok (.lmul, 1) := by decide +kernel
theorem d_F_square_506 : decode b_F_square 506 = .ok (.ladd, 1) := by decide +kernel
theorem d_F_square_507 : decode b_F_square 507 = .ok (.lload 28, 2) := by decide +kernel
theorem d_F_square_509 : decode b_F_square 509 = .ok (.lload 14, 2) := by decide +kernel
theorem d_F_square_511 : decode b_F_square 511 = .ok (.lmul, 1) := by decide +kernel
theorem d_F_square_512 : decode b_F_square 512 = .ok (.ladd, 1) := by decide +kernel
theorem d_F_square_513 : decode b_F_square 513 = .ok (.lload 30, 2) := by decide +kernel
theorem d_F_square_515 : decode b_F_square 515 = .ok (.lload 12, 2) := by decide +kernel
theorem d_F_square_517 : decode b_F_square 517 = .ok (.lmul, 1) := by decide +kernel
theorem d_F_square_518 : decode b_F_square 518 = .ok (.ladd, 1) := by decide +kernel
theorem d_F_square_519 : decode b_F_square 519 = .ok (.lastore, 1) := by decide +kernel
theorem d_F_square_520 : decode b_F_square 520 = .ok (.aload_n 0, 1) := by decide +kernel
theorem d_F_square_521 : decode b_F_square 521 = .ok (.invokestatic 45, 3) := by decide +kernel
theorem d_F_square_524 : decode b_F_square 524 = .ok (.return_, 1) := by decide +kernel
