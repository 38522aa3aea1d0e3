theorem d_M_decode_0 : decode b_M_decode 0 = .ok (.iconst 0, 1) := by decide +kernel
theorem d_M_decode_1 : decode b_M_decode 1 = .ok (.istore_n 1, 1) := by decide +kernel
theorem d_M_decode_2 : decode b_M_decode 2 = .ok (.iload_n 1, 1) := by decide +kernel
theorem d_M_decode_3 : decode b_M_decode 3 = .ok (.bipush 16, 2) := by decide +kernel
theorem d_M_decode_5 : decode b_M_decode 5 = .ok (.if_icmp .ge 65, 3) := by decide +kernel
theorem d_M_decode_8 : decode b_M_decode 8 = .ok (.aload_n 0, 1) := by decide +kernel
theorem d_M_decode_9 : decode b_M_decode 9 = .ok (.getfield 61, 3) := by decide +kernel
theorem d_M_decode_12 : decode b_M_decode 12 = .ok (.iload_n 1, 1) := by decide +kernel
theorem d_M_decode_13 : decode b_M_decode 13 = .ok (.aload_n 0, 1) := by decide +kernel
theorem d_M_decode_14 : decode b_M_decode 14 = .ok (.getfield 103, 3) := by decide +kernel
theorem d_M_decode_17 : decode b_M_decode 17 = .ok (.iconst 2, 1) := by decide +kernel
theorem d_M_decode_18 : decode b_M_decode 18 = .ok (.iload_n 1, 1) := by decide +kernel
theorem d_M_decode_19 : decode b_M_decode 19 = .ok (.imul, 1) := by decide +kernel
theorem d_M_decode_20 : decode b_M_decode 20 = .ok (.baload, 1) := by decide +kernel
theorem d_M_decode_21 : decode b_M_decode 21 = .ok (.sipush 255, 3) := by decide +kernel
theorem d_M_decode_24 : decode b_M_decode 24 = .ok (.iand, 1) := by decide +kernel
theorem d_M_decode_25 : decode b_M_decode 25 = .ok (.iload_n 1, 1) := by decide +kernel
theorem d_M_decode_26 : decode b_M_decode 26 = .ok (.bipush 15, 2) := by decide +kernel
theorem d_M_decode_28 : decode b_M_decode 28 = .ok (.if_icmp .ne 16, 3) := by decide +kernel
theorem d_M_decode_31 : decode b_M_decode 31 = .ok (.aload_n 0, 1) := by decide +kernel
theorem d_M_decode_32 : decode b_M_decode 32 = .ok (.getfield 103, 3) := by decide +kernel
theorem d_M_decode_35 : decode b_M_decode 35 = .ok (.bipush 31, 2) := by decide +kernel
theorem d_M_decode_37 : decode b_M_decode 37 = .ok (.baload, 1) := by decide +kernel
theorem d_M_decode_38 : decode b_M_decode 38 = .ok (.bipush 127, 2) := by decide +kernel
theorem d_M_decode_40 : decode b_M_decode 40 = .ok (.iand, 1) := by decide +kernel
theorem d_M_decode_41 : decode b_M_decode 41 = .ok (.goto 17, 3) := by decide +kernel
theorem d_M_decode_44 : decode b_M_decode 44 = .ok (.aload_n 0, 1) := by decide +kernel
theorem d_M_decode_45 : decode b_M_decode 45 = .ok (.getfield 103, 3) := by decide +kernel
theorem d_M_decode_48 : decode b_M_decode 48 = .ok (.iconst 2, 1) := by decide +kernel
theorem d_M_decode_49 : decode b_M_decode 49 = .ok (.iload_n 1, 1) := by decide +kernel
theorem d_M_decode_50 : decode b_M_decode 50 = .ok (.imul, 1) := by decide +kernel
theorem d_M_decode_51 : decode b_M_decode 51 = .ok (.iconst 1, 1) := by decide +kernel
theorem d_M_decode_52 : decode b_M_decode 52 = .ok (.iadd, 1) := by decide +kernel
theorem d_M_decode_53 : decode b_M_decode 53 = .ok (.baload, 1) := by decide +kernel
theorem d_M_decode_54 : decode b_M_decode 54 = .ok (.sipush 255, 3) := by decide +kernel
theorem d_M_decode_57 : decode b_M_decode 57 = .ok (.iand, 1) := by decide +kernel
theorem d_M_decode_58 : decode b_M_decode 58 = .ok (.bipush 8, 2) := by decide +kernel
theorem d_M_decode_60 : decode b_M_decode 60 = .ok (.ishl, 1) := by decide +kernel
theorem d_M_decode_61 : decode b_M_decode 61 = .ok (.ior, 1) := by decide +kernel
theorem d_M_decode_62 : decode b_M_decode 62 = .ok (.i2l, 1) := by decide +kernel
theorem d_M_decode_63 : decode b_M_decode 63 = .ok (.lastore, 1) := by decide +kernel
theorem d_M_decode_64 : decode b_M_decode 64 = .ok (.iinc 1 1, 3) := by decide +kernel
theorem d_M_decode_67 : decode b_M_decode 67 = .ok (.goto (-65), 3) := by decide +kernel
theorem d_M_decode_70 : decode b_M_decode 70 = .ok (.aload_n 0, 1) := by decide +kernel
theorem d_M_decode_71 : decode b_M_decode 71 = .ok (.getfield 61, 3) := by decide +kernel
theorem d_M_decode_74 : decode b_M_decode 74 = .ok (.aload_n 0, 1) := by decide +kernel
theorem d_M_decode_75 : decode b_M_decode 75 = .ok (.getfield 27, 3) := by decide +kernel
theorem d_M_decode_78 : decode b_M_decode 78 = .ok (.invokestatic 215, 3) := by decide +kernel
theorem d_M_decode_81 : decode b_M_decode 81 = .ok (.ifCond .ne 5, 3) := by decide +kernel
theorem d_M_decode_84 : decode b_M_decode 84 = .ok (.iconst 0, 1) := by decide +kernel
theorem d_M_decode_85 : decode b_M_decode 85 = .ok (.ireturn, 1) := by decide +kernel
theorem d_M_decode_86 : decode b_M_decode 86 = .ok (.aload_n 0, 1) := by decide +kernel
theorem d_M_decode_87 : decode b_M_decode 87 = .ok (.aload_n 0, 1) := by decide +kernel
theorem d_M_decode_88 : decode b_M_decode 88 = .ok (.getfield 70, 3) := by decide +kernel
theorem d_M_decode_91 : decode b_M_decode 91 = .ok (.aload_n 0, 1) := by decide +kernel
theorem d_M_decode_92 : decode b_M_decode 92 = .ok (.getfield 61, 3) := by decide +kernel
theorem d_M_decode_95 : decode b_M_decode 95 = .ok (.aload_n 0, 1) := by decide +kernel
theorem d_M_decode_96 : decode b_M_decode 96 = .ok (.getfield 61, 3) := by decide +kernel
theorem d_M_decode_99 : decode b_M_decode 99 = .ok (.aload_n 0, 1) := by decide +kernel
theorem d_M_decode_100 : decode b_M_decode 100 = .ok (.getfield 27, 3) := by decide +kernel
theorem d_M_decode_103 : decode b_M_decode 103 = .ok (.aload_n 0, 1) := by decide +kernel
theorem d_M_decode_104 : decode b_M_decode 104 = .ok (.getfield 31, 3) := by decide +kernel
theorem d_M_decode_107 : decode b_M_decode 107 = .ok (.invokevirtual 188, 3) := by decide +kernel
theorem d_M_decode_110 : decode b_M_decode 110 = .ok (.aload_n 0, 1) := by decide +kernel
theorem d_M_decode_111 : decode b_M_decode 111 = .ok (.aload_n 0, 1) := by decide +kernel
theorem d_M_decode_112 : decode b_M_decode 112 = .ok (.getfield 73, 3) := by decide +kernel
theorem d_M_decode_115 : decode b_M_decode 115 = .ok (.aload_n 0, 1) := by decide +kernel
theorem d_M_decode_116 : decode b_M_decode 116 = .ok (.getfield 70, 3) := by decide +kernel
theorem d_M_decode_119 : decode b_M_decode 119 = .ok (.aload_n 0, 1) := by decide +kernel
theorem d_M_decode_120 : decode b_M_decode 120 = .ok (.getfield 40, 3) := by decide +kernel
theorem d_M_decode_123 : decode b_M_decode 123 = .ok (.aload_n 0, 1) := by decide +kernel
theorem d_M_decode_124 : decode b_M_decode 124 = .ok (.getfield 27, 3) := by decide +kernel
theorem d_M_decode_127 : decode b_M_decode 127 = .ok (.aload_n 0, 1) := by decide +kernel
theorem d_M_decode_128 : decode b_M_decode 128 = .ok (.getfield 31, 3) := by decide +kernel
theorem d_M_decode_131 : decode b_M_decode 131 = .ok (.invokevirtual 188, 3) := by decide +kernel
theorem d_M_decode_134 : decode b_M_decode 134 = .ok (.aload_n 0, 1) := by decide +kernel
theorem d_M_decode_135 : decode b_M_decode 135 = .ok (.getfield 70, 3) := by decide +kernel
theorem d_M_decode_138 : decode b_M_decode 138 = .ok (.aload_n 0, 1) := by decide +kernel
theorem d_M_decode_139 : decode b_M_decode 139 = .ok (.getfield 70, 3) := by decide +kernel
theorem d_M_decode_142 : decode b_M_decode 142 = .ok (.aload_n 0, 1) := by decide +kernel
theorem d_M_decode_143 : decode b_M_decode 143 = .ok (.getfield 88, 3) := by decide +kernel
theorem d_M_decode_146 : decode b_M_decode 146 = .ok (.aload_n 0, 1) := by decide +kernel
theorem d_M_decode_147 : decode b_M_decode 147 = .ok (.getfield 27, 3) := by decide +kernel
theorem d_M_decode_150 : decode b_M_decode 150 = .ok (.invokestatic 192, 3) := by decide +kernel
theorem d_M_decode_153 : decode b_M_decode 153 = .ok (.aload_n 0, 1) := by decide +kernel
theorem d_M_decode_154 : decode b_M_decode 154 = .ok (.getfield 73, 3) := by decide +kernel
theorem d_M_decode_157 : decode b_M_decode 157 = .ok (.aload_n 0, 1) := by decide +kernel
theorem d_M_decode_158 : decode b_M_decode 158 = .ok (.getfield 73, 3) := by decide +kernel
theorem d_M_decode_161 : decode b_M_decode 161 = .ok (.aload_n 0, 1) := by decide +kernel
theorem d_M_decode_162 : decode b_M_decode 162 = .ok (.getfield 88, 3) := by decide +kernel
theorem d_M_decode_165 : decode b_M_decode 165 = .ok (.aload_n 0, 1) := by decide +kernel
theorem d_M_decode_166 : decode b_M_decode 166 = .ok (.getfield 27, 3) := by decide +kernel
theorem d_M_decode_169 : decode b_M_decode 169 = .ok (.invokestatic 222, 3) := by decide +kernel
theorem d_M_decode_172 : decode b_M_decode 172 = .ok (.aload_n 0, 1) := by decide +kernel
theorem d_M_decode_173 : decode b_M_decode 173 = .ok (.aload_n 0, 1) := by decide +kernel
theorem d_M_decode_174 : decode b_M_decode 174 = .ok (.getfield 76, 3) := by decide +kernel
theorem d_M_decode_177 : decode b_M_decode 177 = .ok (.aload_n 0, 1) := by decide +kernel
theorem d_M_decode_178 : decode b_M_decode 178 = .ok (.getfield 73, 3) := by decide +kernel
theorem d_M_decode_181 : decode b_M_decode 181 = .ok (.aload_n 0, 1) := by decide +kernel
theorem d_M_decode_182 : decode b_M_decode 182 = .ok (.getfield 27, 3) := by decide +kernel
theorem d_M_decode_185 : decode b_M_decode 185 = .ok (.invokevirtual 185, 3) := by decide +kernel
theorem d_M_decode_188 : decode b_M_decode 188 = .ok (.aload_n 0, 1) := by decide +kernel
theorem d_M_decode_189 : decode b_M_decode 189 = .ok (.aload_n 0, 1) := by decide +kernel
theorem d_M_decode_190 : decode b_M_decode 190 = .ok (.getfield 70, 3) := by decide +kernel
theorem d_M_decode_193 : decode b_M_decode 193 = .ok (.aload_n 0, 1) := by decide +kernel
theorem d_M_decode_194 : decode b_M_decode 194 = .ok (.getfield 70, 3) := by decide +kernel
theorem d_M_decode_197 : decode b_M_decode 197 = .ok (.aload_n 0, 1) := by decide +kernel
theorem d_M_decode_198 : decode b_M_decode 198 = .ok (.getfield 76, 3) := by decide +kernel
theorem d_M_decode_201 : decode b_M_decode 201 = .ok (.aload_n 0, 1) := by decide +kernel
theorem d_M_decode_202 : decode b_M_decode 202 = .ok (.getfield 27, 3) := by decide +kernel
theorem d_M_decode_205 : decode b_M_decode 205 = .ok (.aload_n 0, 1) := by decide +kernel
theorem d_M_decode_206 : decode b_M_decode 206 = .ok (.getfield 31, 3) := by decide +kernel
theorem d_M_decode_209 : decode b_M_decode 209 = .ok (.invokevirtual 188, 3) := by decide +kernel
theorem d_M_decode_212 : decode b_M_decode 212 = .ok (.iconst 0, 1) := by decide +kernel
theorem d_M_decode_213 : decode b_M_decode 213 = .ok (.istore_n 1, 1) := by decide +kernel
theorem d_M_decode_214 : decode b_M_decode 214 = .ok (.iload_n 1, 1) := by decide +kernel
theorem d_M_decode_215 : decode b_M_decode 215 = .ok (.bipush 16, 2) := by decide +kernel
theorem d_M_decode_217 : decode b_M_decode 217 = .ok (.if_icmp .ge 40, 3) := by decide +kernel
theorem d_M_decode_220 : decode b_M_decode 220 = .ok (.aload_n 0, 1) := by decide +kernel
theorem d_M_decode_221 : decode b_M_decode 221 = .ok (.getfield 79, 3) := by decide +kernel
theorem d_M_decode_224 : decode b_M_decode 224 = .ok (.iload_n 1, 1) := by decide +kernel
theorem d_M_decode_225 : decode b_M_decode 225 = .ok (.iload_n 1, 1) := by decide +kernel
theorem d_M_decode_226 : decode b_M_decode 226 = .ok (.ifCond .ne 9, 3) := by decide +kernel
theorem d_M_decode_229 : decode b_M_decode 229 = .ok (.ldc2_w 277, 3) := by decide +kernel
theorem d_M_decode_232 : decode b_M_decode 232 = .ok (.goto 18, 3) := by decide +kernel
theorem d_M_decode_235 : decode b_M_decode 235 = .ok (.iload_n 1, 1) := by decide +kernel
theorem d_M_decode_236 : decode b_M_decode 236 = .ok (.bipush 15, 2) := by decide +kernel
theorem d_M_decode_238 : decode b_M_decode 238 = .ok (.if_icmp .ne 9, 3) := by decide +kernel
theorem d_M_decode_241 : decode b_M_decode 241 = .ok (.ldc2_w 279, 3) := by decide +kernel
theorem d_M_decode_244 : decode b_M_decode 244 = .ok (.goto 6, 3) := by decide +kernel
theorem d_M_decode_247 : decode b_M_decode 247 = .ok (.ldc2_w 169, 3) := by decide +kernel
theorem d_M_decode_250 : decode b_M_decode 250 = .ok (.lastore, 1) := by decide +kernel
theorem d_M_decode_251 : decode b_M_decode 251 = .ok (.iinc 1 1, 3) := by decide +kernel
theorem d_M_decode_254 : decode b_M_decode 254 = .ok (.goto (-40), 3) := by decide +kernel
theorem d_M_decode_257 : decode b_M_decode 257 = .ok (.aload_n 0, 1) := by decide +kernel
theorem d_M_decode_258 : decode b_M_decode 258 = .ok (.aload_n 0, 1) := by decide +kernel
theorem d_M_decode_259 : decode b_M_decode 259 = .ok (.getfield 58, 3) := by decide +kernel
theorem d_M_decode_262 : decode b_M_decode 262 = .ok (.aload_n 0, 1) := by decide +kernel
theorem d_M_decode_263 : decode b_M_decode 263 = .ok (.getfield 70, 3) := by decide +kernel
theorem d_M_decode_266 : decode b_M_decode 266 = .ok (.aload_n 0, 1) := by decide +kernel
theorem d_M_decode_267 : decode b_M_decode 267 = .ok (.getfield 79, 3) := by decide +kernel
theorem d_M_decode_270 : decode b_M_decode 270 = .ok (.invokevirtual 200, 3) := by decide +kernel
theorem d_M_decode_273 : decode b_M_decode 273 = .ok (.aload_n 0, 1) := by decide +kernel
theorem d_M_decode_274 : decode b_M_decode 274 = .ok (.aload_n 0, 1) := by decide +kernel
theorem d_M_decode_275 : decode b_M_decode 275 = .ok (.getfield 76, 3) := by decide +kernel
theorem d_M_decode_278 : decode b_M_decode 278 = .ok (.aload_n 0, 1) := by decide +kernel
theorem d_M_decode_279 : decode b_M_decode 279 = .ok (.getfield 58, 3) := by decide +kernel
theorem d_M_decode_282 : decode b_M_decode 282 = .ok (.aload_n 0, 1) := by decide +kernel
theorem d_M_decode_283 : decode b_M_decode 283 = .ok (.getfield 58, 3) := by decide +kernel
theorem d_M_decode_286 : decode b_M_decode 286 = .ok (.aload_n 0, 1) := by decide +kernel
theorem d_M_decode_287 : decode b_M_decode 287 = .ok (.getfield 27, 3) := by decide +kernel
theorem d_M_decode_290 : decode b_M_decode 290 = .ok (.aload_n 0, 1) := by decide +kernel
theorem d_M_decode_291 : decode b_M_decode 291 = .ok (.getfield 31, 3) := by decide +kernel
theorem d_M_decode_294 : decode b_M_decode 294 = .ok (.invokevirtual 188, 3) := by decide +kernel
theorem d_M_decode_297 : decode b_M_decode 297 = .ok (.aload_n 0, 1) := by decide +kernel
theorem d_M_decode_298 : decode b_M_decode 298 = .ok (.getfield 76, 3) := by decide +kernel
theorem d_M_decode_301 : decode b_M_decode 301 = .ok (.aload_n 0, 1) := by decide +kernel
theorem d_M_decode_302 : decode b_M_decode 302 = .ok (.getfield 70, 3) := by decide +kernel
theorem d_M_decode_305 : decode b_M_decode 305 = .ok (.invokestatic 281, 3) := by decide +kernel
theorem d_M_decode_308 : decode b_M_decode 308 = .ok (.ifCond .ne 27, 3) := by decide +kernel
theorem d_M_decode_311 : decode b_M_decode 311 = .ok (.aload_n 0, 1) := by decide +kernel
theorem d_M_decode_312 : decode b_M_decode 312 = .ok (.aload_n 0, 1) := by decide +kernel
theorem d_M_decode_313 : decode b_M_decode 313 = .ok (.getfield 58, 3) := by decide +kernel
theorem d_M_decode_316 : decode b_M_decode 316 = .ok (.aload_n 0, 1) := by decide +kernel
theorem d_M_decode_317 : decode b_M_decode 317 = .ok (.getfield 58, 3) := by decide +kernel
theorem d_M_decode_320 : decode b_M_decode 320 = .ok (.aload_n 0, 1) := by decide +kernel
theorem d_M_decode_321 : decode b_M_decode 321 = .ok (.getfield 43, 3) := by decide +kernel
theorem d_M_decode_324 : decode b_M_decode 324 = .ok (.aload_n 0, 1) := by decide +kernel
theorem d_M_decode_325 : decode b_M_decode 325 = .ok (.getfield 27, 3) := by decide +kernel
theorem d_M_decode_328 : decode b_M_decode 328 = .ok (.aload_n 0, 1) := by decide +kernel
theorem d_M_decode_329 : decode b_M_decode 329 = .ok (.getfield 31, 3) := by decide +kernel
theorem d_M_decode_332 : decode b_M_decode 332 = .ok (.invokevirtual 188, 3) := by decide +kernel
theorem d_M_decode_335 : decode b_M_decode 335 = .ok (.aload_n 0, 1) := by decide +kernel
theorem d_M_decode_336 : decode b_M_decode 336 = .ok (.aload_n 0, 1) := by decide +kernel
theorem d_M_decode_337 : decode b_M_decode 337 = .ok (.getfield 76, 3) := by decide +kernel
theorem d_M_decode_340 : decode b_M_decode 340 = .ok (.aload_n 0, 1) := by decide +kernel
theorem d_M_decode_341 : decode b_M_decode 341 = .ok (.getfield 58, 3) := by decide +kernel
theorem d_M_decode_344 : decode b_M_decode 344 = .ok (.aload_n 0, 1) := by decide +kernel
theorem d_M_decode_345 : decode b_M_decode 345 = .ok (.getfield 58, 3) := by decide +kernel
theorem d_M_decode_348 : decode b_M_decode 348 = .ok (.aload_n 0, 1) := by decide +kernel
theorem d_M_decode_349 : decode b_M_decode 349 = .ok (.getfield 27, 3) := by decide +kernel
theorem d_M_decode_352 : decode b_M_decode 352 = .ok (.aload_n 0, 1) := by decide +kernel
theorem d_M_decode_353 : decode b_M_decode 353 = .ok (.getfield 31, 3) := by decide +kernel
theorem d_M_decode_356 : decode b_M_decode 356 = .ok (.invokevirtual 188, 3) := by decide +kernel
theorem d_M_decode_359 : decode b_M_decode 359 = .ok (.aload_n 0, 1) := by decide +kernel
theorem d_M_decode_360 : decode b_M_decode 360 = .ok (.getfield 76, 3) := by decide +kernel
theorem d_M_decode_363 : decode b_M_decode 363 = .ok (.aload_n 0, 1) := by decide +kernel
theorem d_M_decode_364 : decode b_M_decode 364 = .ok (.getfield 70, 3) := by decide +kernel
theorem d_M_decode_367 : decode b_M_decode 367 = .ok (.invokestatic 281, 3) := by decide +kernel
theorem d_M_decode_370 : decode b_M_decode 370 = .ok (.ifCond .ne 5, 3) := by decide +kernel
theorem d_M_decode_373 : decode b_M_decode 373 = .ok (.iconst 0, 1) := by decide +kernel
theorem d_M_decode_374 : decode b_M_decode 374 = .ok (.ireturn, 1) := by decide +kernel
theorem d_M_decode_375 : decode b_M_decode 375 = .ok (.aload_n 0, 1) := by decide +kernel
theorem d_M_decode_376 : decode b_M_decode 376 = .ok (.getfield 103, 3) := by decide +kernel
theorem d_M_decode_379 : decode b_M_decode 379 = .ok (.bipush 31, 2) := by decide +kernel
theorem d_M_decode_381 : decode b_M_decode 381 = .ok (.baload, 1) := by decide +kernel
theorem d_M_decode_382 : decode b_M_decode 382 = .ok (.bipush 7, 2) := by decide +kernel
theorem d_M_decode_384 : decode b_M_decode 384 = .ok (.ishr, 1) := by decide +kernel
theorem d_M_decode_385 : decode b_M_decode 385 = .ok (.iconst 1, 1) := by decide +kernel
theorem d_M_decode_386 : decode b_M_decode 386 = .ok (.iand, 1) := by decide +kernel
theorem d_M_decode_387 : decode b_M_decode 387 = .ok (.istore_n 1, 1) := by decide +kernel
theorem d_M_decode_388 : decode b_M_decode 388 = .ok (.aload_n 0, 1) := by decide +kernel
theorem d_M_decode_389 : decode b_M_decode 389 = .ok (.getfield 58, 3) := by decide +kernel
theorem d_M_decode_392 : decode b_M_decode 392 = .ok (.invokestatic 228, 3) := by decide +kernel
theorem d_M_decode_395 : decode b_M_decode 395 = .ok (.ifCond .eq 10, 3) := by decide +kernel
theorem d_M_decode_398 : decode b_M_decode 398 = .ok (.iload_n 1, 1) := by decide +kernel
theorem d_M_decode_399 : decode b_M_decode 399 = .ok (.iconst 1, 1) := by decide +kernel
theorem d_M_decode_400 : decode b_M_decode 400 = .ok (.if_icmp .ne 5, 3) := by decide +kernel
theorem d_M_decode_403 : decode b_M_decode 403 = .ok (.iconst 0, 1) := by decide +kernel
theorem d_M_decode_404 : decode b_M_decode 404 = .ok (.ireturn, 1) := by decide +kernel
theorem d_M_decode_405 : decode b_M_decode 405 = .ok (.aload_n 0, 1) := by decide +kernel
theorem d_M_decode_406 : decode b_M_decode 406 = .ok (.getfield 58, 3) := by decide +kernel
theorem d_M_decode_409 : decode b_M_decode 409 = .ok (.iconst 0, 1) := by decide +kernel
theorem d_M_decode_410 : decode b_M_decode 410 = .ok (.laload, 1) := by decide +kernel
theorem d_M_decode_411 : decode b_M_decode 411 = .ok (.lconst 1, 1) := by decide +kernel
theorem d_M_decode_412 : decode b_M_decode 412 = .ok (.land, 1) := by decide +kernel
theorem d_M_decode_413 : decode b_M_decode 413 = .ok (.iload_n 1, 1) := by decide +kernel
theorem d_M_decode_414 : decode b_M_decode 414 = .ok (.i2l, 1) := by decide +kernel
theorem d_M_decode_415 : decode b_M_decode 415 = .ok (.lcmp, 1) := by decide +kernel
theorem d_M_decode_416 : decode b_M_decode 416 = .ok (.ifCond .eq 30, 3) := by decide +kernel
theorem d_M_decode_419 : decode b_M_decode 419 = .ok (.aload_n 0, 1) := by decide +kernel
theorem d_M_decode_420 : decode b_M_decode 420 = .ok (.getfield 76, 3) := by decide +kernel
theorem d_M_decode_423 : decode b_M_decode 423 = .ok (.iconst 0, 1) := by decide +kernel
theorem d_M_decode_424 : decode b_M_decode 424 = .ok (.invokestatic 177, 3) := by decide +kernel
theorem d_M_decode_427 : decode b_M_decode 427 = .ok (.aload_n 0, 1) := by decide +kernel
theorem d_M_decode_428 : decode b_M_decode 428 = .ok (.getfield 58, 3) := by decide +kernel
theorem d_M_decode_431 : decode b_M_decode 431 = .ok (.aload_n 0, 1) := by decide +kernel
theorem d_M_decode_432 : decode b_M_decode 432 = .ok (.getfield 76, 3) := by decide +kernel
theorem d_M_decode_435 : decode b_M_decode 435 = .ok (.aload_n 0, 1) := by decide +kernel
theorem d_M_decode_436 : decode b_M_decode 436 = .ok (.getfield 58, 3) := by decide +kernel
theorem d_M_decode_439 : decode b_M_decode 439 = .ok (.aload_n 0, 1) := by decide +kernel
theorem d_M_decode_440 : decode b_M_decode 440 = .ok (.getfield 27, 3) := by decide +kernel
theorem d_M_decode_443 : decode b_M_decode 443 = .ok (.invokestatic 192, 3) := by decide +kernel
theorem d_M_decode_446 : decode b_M_decode 446 = .ok (.iconst 1, 1) := by decide +kernel
theorem d_M_decode_447 : decode b_M_decode 447 = .ok (.ireturn, 1) := by decide +kernel
theorem d_M_encode_0 : decode b_M_encode 0 = .ok (.iconst 0, 1) := by decide +kernel
theorem d_M_encode_1 : decode b_M_encode 1 = .ok (.istore 4, 2) := by decide +kernel
theorem d_M_encode_3 : decode b_M_encode 3 = .ok (.iload 4, 2) := by decide +kernel
theorem d_M_encode_5 : decode b_M_encode 5 = .ok (.bipush 32, 2) := by decide +kernel
theorem d_M_encode_7 : decode b_M_encode 7 = .ok (.if_icmp .ge 29, 3) := by decide +kernel
theorem d_M_encode_10 : decode b_M_encode 10 = .ok (.aload_n 1, 1) := by decide +kernel
theorem d_M_encode_11 : decode b_M_encode 11 = .ok (.iload 4, 2) := by decide +kernel
theorem d_M_encode_13 : decode b_M_encode 13 = .ok (.aload_n 3, 1) := by decide +kernel
theorem d_M_encode_14 : decode b_M_encode 14 = .ok (.iload 4, 2) := by decide +kernel
theorem d_M_encode_16 : decode b_M_encode 16 = .ok (.iconst 2, 1) := by decide +kernel
theorem d_M_encode_17 : decode b_M_encode 17 = .ok (.idiv, 1) := by decide +kernel
theorem d_M_encode_18 : decode b_M_encode 18 = .ok (.laload, 1) := by decide +kernel
theorem d_M_encode_19 : decode b_M_encode 19 = .ok (.bipush 8, 2) := by decide +kernel
theorem d_M_encode_21 : decode b_M_encode 21 = .ok (.iload 4, 2) := by decide +kernel
theorem d_M_encode_23 : decode b_M_encode 23 = .ok (.iconst 2, 1) := by decide +kernel
theorem d_M_encode_24 : decode b_M_encode 24 = .ok (.irem, 1) := by decide +kernel
theorem d_M_encode_25 : decode b_M_encode 25 = .ok (.imul, 1) := by decide +kernel
theorem d_M_encode_26 : decode b_M_encode 26 = .ok (.lshr, 1) := by decide +kernel
theorem d_M_encode_27 : decode b_M_encode 27 = .ok (.l2i, 1) := by decide +kernel
theorem d_M_encode_28 : decode b_M_encode 28 = .ok (.i2b, 1) := by decide +kernel
theorem d_M_encode_29 : decode b_M_encode 29 = .ok (.bastore, 1) := by decide +kernel
theorem d_M_encode_30 : decode b_M_encode 30 = .ok (.iinc 4 1, 3) := by decide +kernel
theorem d_M_encode_33 : decode b_M_encode 33 = .ok (.goto (-30), 3) := by decide +kernel
theorem d_M_encode_36 : decode b_M_encode 36 = .ok (.aload_n 1, 1) := by decide +kernel
theorem d_M_encode_37 : decode b_M_encode 37 = .ok (.bipush 31, 2) := by decide +kernel
theorem d_M_encode_39 : decode b_M_encode 39 = .ok (.dup2, 1) := by decide +kernel
theorem d_M_encode_40 : decode b_M_encode 40 = .ok (.baload, 1) := by decide +kernel
theorem d_M_encode_41 : decode b_M_encode 41 = .ok (.aload_n 2, 1) := by decide +kernel
theorem d_M_encode_42 : decode b_M_encode 42 = .ok (.iconst 0, 1) := by decide +kernel
theorem d_M_encode_43 : decode b_M_encode 43 = .ok (.laload, 1) := by decide +kernel
theorem d_M_encode_44 : decode b_M_encode 44 = .ok (.lconst 1, 1) := by decide +kernel
theorem d_M_encode_45 : decode b_M_encode 45 = .ok (.land, 1) := by decide +kernel
theorem d_M_encode_46 : decode b_M_encode 46 = .ok (.bipush 7, 2) := by decide +kernel
theorem d_M_encode_48 : decode b_M_encode 48 = .ok (.lshl, 1) := by decide +kernel
theorem d_M_encode_49 : decode b_M_encode 49 = .ok (.l2i, 1) := by decide +kernel
theorem d_M_encode_50 : decode b_M_encode 50 = .ok (.i2b, 1) := by decide +kernel
theorem d_M_encode_51 : decode b_M_encode 51 = .ok (.ior, 1) := by decide +kernel
theorem d_M_encode_52 : decode b_M_encode 52 = .ok (.i2b, 1) := by decide +kernel
theorem d_M_encode_53 : decode b_M_encode 53 = .ok (.bastore, 1) := by decide +kernel
theorem d_M_encode_54 : decode b_M_encode 54 = .ok (.return_, 1) := by decide +kernel
theorem d_M_add_0 : decode b_M_add 0 = .ok (.aload_n 0, 1) := by decide +kernel
theorem d_M_add_1 : decode b_M_add 1 = .ok (.aload_n 0, 1) := by decide +kernel
theorem d_M_add_2 : decode b_M_add 2 = .ok (.getfield 70, 3) := by decide +kernel
theorem d_M_add_5 : decode b_M_add 5 = .ok (.aload_n 1, 1) := by decide +kernel
theorem d_M_add_6 : decode b_M_add 6 = .ok (.aload 4, 2) := by decide +kernel
theorem d_M_add_8 : decode b_M_add 8 = .ok (.aload_n 0, 1) := by decide +kernel
theorem d_M_add_9 : decode b_M_add 9 = .ok (.getfield 27, 3) := by decide +kernel
theorem d_M_add_12 : decode b_M_add 12 = .ok (.aload_n 0, 1) := by decide +kernel
theorem d_M_add_13 : decode b_M_add 13 = .ok (.getfield 31, 3) := by decide +kernel
theorem d_M_add_16 : decode b_M_add 16 = .ok (.invokevirtual 188, 3) := by decide +kernel
theorem d_M_add_19 : decode b_M_add 19 = .ok (.aload_n 0, 1) := by decide +kernel
theorem d_M_add_20 : decode b_M_add 20 = .ok (.aload_n 0, 1) := by decide +kernel
theorem d_M_add_21 : decode b_M_add 21 = .ok (.getfield 73, 3) := by decide +kernel
theorem d_M_add_24 : decode b_M_add 24 = .ok (.aload_n 2, 1) := by decide +kernel
theorem d_M_add_25 : decode b_M_add 25 = .ok (.aload_n 3, 1) := by decide +kernel
theorem d_M_add_26 : decode b_M_add 26 = .ok (.aload_n 0, 1) := by decide +kernel
theorem d_M_add_27 : decode b_M_add 27 = .ok (.getfield 27, 3) := by decide +kernel
theorem d_M_add_30 : decode b_M_add 30 = .ok (.aload_n 0, 1) := by decide +kernel
theorem d_M_add_31 : decode b_M_add 31 = .ok (.getfield 31, 3) := by decide +kernel
theorem d_M_add_34 : decode b_M_add 34 = .ok (.invokevirtual 188, 3) := by decide +kernel
theorem d_M_add_37 : decode b_M_add 37 = .ok (.aload_n 0, 1) := by decide +kernel
theorem d_M_add_38 : decode b_M_add 38 = .ok (.getfield 70, 3) := by decide +kernel
theorem d_M_add_41 : decode b_M_add 41 = .ok (.aload_n 0, 1) := by decide +kernel
theorem d_M_add_42 : decode b_M_add 42 = .ok (.getfield 70, 3) := by decide +kernel
theorem d_M_add_45 : decode b_M_add 45 = .ok (.aload_n 0, 1) := by decide +kernel
theorem d_M_add_46 : decode b_M_add 46 = .ok (.getfield 73, 3) := by decide +kernel
theorem d_M_add_49 : decode b_M_add 49 = .ok (.aload_n 0, 1) := by decide +kernel
theorem d_M_add_50 : decode b_M_add 50 = .ok (.getfield 27, 3) := by decide +kernel
theorem d_M_add_53 : decode b_M_add 53 = .ok (.invokestatic 222, 3) := by decide +kernel
theorem d_M_add_56 : decode b_M_add 56 = .ok (.aload_n 0, 1) := by decide +kernel
theorem d_M_add_57 : decode b_M_add 57 = .ok (.aload_n 0, 1) := by decide +kernel
theorem d_M_add_58 : decode b_M_add 58 = .ok (.getfield 73, 3) := by decide +kernel
theorem d_M_add_61 : decode b_M_add 61 = .ok (.aload_n 2, 1) := by decide +kernel
theorem d_M_add_62 : decode b_M_add 62 = .ok (.aload 4, 2) := by decide +kernel
theorem d_M_add_64 : decode b_M_add 64 = .ok (.aload_n 0, 1) := by decide +kernel
theorem d_M_add_65 : decode b_M_add 65 = .ok (.getfield 27, 3) := by decide +kernel
theorem d_M_add_68 : decode b_M_add 68 = .ok (.aload_n 0, 1) := by decide +kernel
theorem d_M_add_69 : decode b_M_add 69 = .ok (.getfield 31, 3) := by decide +kernel
theorem d_M_add_72 : decode b_M_add 72 = .ok (.invokevirtual 188, 3) := by decide +kernel
theorem d_M_add_75 : decode b_M_add 75 = .ok (.aload_n 0, 1) := by decide +kernel
theorem d_M_add_76 : decode b_M_add 76 = .ok (.aload_n 0, 1) := by decide +kernel
theorem d_M_add_77 : decode b_M_add 77 = .ok (.getfield 76, 3) := by decide +kernel
theorem d_M_add_80 : decode b_M_add 80 = .ok (.aload_n 1, 1) := by decide +kernel
theorem d_M_add_81 : decode b_M_add 81 = .ok (.aload_n 3, 1) := by decide +kernel
theorem d_M_add_82 : decode b_M_add 82 = .ok (.aload_n 0, 1) := by decide +kernel
theorem d_M_add_83 : decode b_M_add 83 = .ok (.getfield 27, 3) := by decide +kernel
theorem d_M_add_86 : decode b_M_add 86 = .ok (.aload_n 0, 1) := by decide +kernel
theorem d_M_add_87 : decode b_M_add 87 = .ok (.getfield 31, 3) := by decide +kernel
theorem d_M_add_90 : decode b_M_add 90 = .ok (.invokevirtual 188, 3) := by decide +kernel
theorem d_M_add_93 : decode b_M_add 93 = .ok (.aload_n 0, 1) := by decide +kernel
theorem d_M_add_94 : decode b_M_add 94 = .ok (.aload_n 0, 1) := by decide +kernel
theorem d_M_add_95 : decode b_M_add 95 = .ok (.getfield 79, 3) := by decide +kernel
theorem d_M_add_98 : decode b_M_add 98 = .ok (.aload_n 0, 1) := by decide +kernel
theorem d_M_add_99 : decode b_M_add 99 = .ok (.getfield 73, 3) := by decide +kernel
theorem d_M_add_102 : decode b_M_add 102 = .ok (.aload_n 0, 1) := by decide +kernel
theorem d_M_add_103 : decode b_M_add 103 = .ok (.getfield 76, 3) := by decide +kernel
theorem d_M_add_106 : decode b_M_add 106 = .ok (.aload_n 0, 1) := by decide +kernel
theorem d_M_add_107 : decode b_M_add 107 = .ok (.getfield 27, 3) := by decide +kernel
theorem d_M_add_110 : decode b_M_add 110 = .ok (.aload_n 0, 1) := by decide +kernel
theorem d_M_add_111 : decode b_M_add 111 = .ok (.getfield 31, 3) := by decide +kernel
theorem d_M_add_114 : decode b_M_add 114 = .ok (.invokevirtual 188, 3) := by decide +kernel
theorem d_M_add_117 : decode b_M_add 117 = .ok (.aload_n 0, 1) := by decide +kernel
theorem d_M_add_118 : decode b_M_add 118 = .ok (.getfield 73, 3) := by decide +kernel
theorem d_M_add_121 : decode b_M_add 121 = .ok (.aload_n 0, 1) := by decide +kernel
theorem d_M_add_122 : decode b_M_add 122 = .ok (.getfield 73, 3) := by decide +kernel
theorem d_M_add_125 : decode b_M_add 125 = .ok (.aload_n 0, 1) := by decide +kernel
theorem d_M_add_126 : decode b_M_add 126 = .ok (.getfield 76, 3) := by decide +kernel
theorem d_M_add_129 : decode b_M_add 129 = .ok (.aload_n 0, 1) := by decide +kernel
theorem d_M_add_130 : decode b_M_add 130 = .ok (.getfield 27, 3) := by decide +kernel
theorem d_M_add_133 : decode b_M_add 133 = .ok (.invokestatic 222, 3) := by decide +kernel
theorem d_M_add_136 : decode b_M_add 136 = .ok (.aload_n 0, 1) := by decide +kernel
theorem d_M_add_137 : decode b_M_add 137 = .ok (.aload_n 0, 1) := by decide +kernel
theorem d_M_add_138 : decode b_M_add 138 = .ok (.getfield 79, 3) := by decide +kernel
theorem d_M_add_141 : decode b_M_add 141 = .ok (.aload_n 0, 1) := by decide +kernel
theorem d_M_add_142 : decode b_M_add 142 = .ok (.getfield 79, 3) := by decide +kernel
theorem d_M_add_145 : decode b_M_add 145 = .ok (.aload_n 0, 1) := by decide +kernel
theorem d_M_add_146 : decode b_M_add 146 = .ok (.getfield 40, 3) := by decide +kernel
theorem d_M_add_149 : decode b_M_add 149 = .ok (.aload_n 0, 1) := by decide +kernel
theorem d_M_add_150 : decode b_M_add 150 = .ok (.getfield 27, 3) := by decide +kernel
theorem d_M_add_153 : decode b_M_add 153 = .ok (.aload_n 0, 1) := by decide +kernel
theorem d_M_add_154 : decode b_M_add 154 = .ok (.getfield 31, 3) := by decide +kernel
theorem d_M_add_157 : decode b_M_add 157 = .ok (.invokevirtual 188, 3) := by decide +kernel
theorem d_M_add_160 : decode b_M_add 160 = .ok (.aload_n 0, 1) := by decide +kernel
theorem d_M_add_161 : decode b_M_add 161 = .ok (.getfield 82, 3) := by decide +kernel
theorem d_M_add_164 : decode b_M_add 164 = .ok (.aload_n 0, 1) := by decide +kernel
theorem d_M_add_165 : decode b_M_add 165 = .ok (.getfield 88, 3) := by decide +kernel
theorem d_M_add_168 : decode b_M_add 168 = .ok (.aload_n 0, 1) := by decide +kernel
theorem d_M_add_169 : decode b_M_add 169 = .ok (.getfield 79, 3) := by decide +kernel
theorem d_M_add_172 : decode b_M_add 172 = .ok (.aload_n 0, 1) := by decide +kernel
theorem d_M_add_173 : decode b_M_add 173 = .ok (.getfield 27, 3) := by decide +kernel
theorem d_M_add_176 : decode b_M_add 176 = .ok (.invokestatic 222, 3) := by decide +kernel
theorem d_M_add_179 : decode b_M_add 179 = .ok (.aload_n 0, 1) := by decide +kernel
theorem d_M_add_180 : decode b_M_add 180 = .ok (.getfield 85, 3) := by decide +kernel
theorem d_M_add_183 : decode b_M_add 183 = .ok (.aload_n 0, 1) := by decide +kernel
theorem d_M_add_184 : decode b_M_add 184 = .ok (.getfield 88, 3) := by decide +kernel
theorem d_M_add_187 : decode b_M_add 187 = .ok (.aload_n 0, 1) := by decide +kernel
theorem d_M_add_188 : decode b_M_add 188 = .ok (.getfield 79, 3) := by decide +kernel
theorem d_M_add_191 : decode b_M_add 191 = .ok (.aload_n 0, 1) := by decide +kernel
theorem d_M_add_192 : decode b_M_add 192 = .ok (.getfield 27, 3) := by decide +kernel
theorem d_M_add_195 : decode b_M_add 195 = .ok (.invokestatic 192, 3) := by decide +kernel
theorem d_M_add_198 : decode b_M_add 198 = .ok (.aload_n 0, 1) := by decide +kernel
theorem d_M_add_199 : decode b_M_add 199 = .ok (.aload_n 0, 1) := by decide +kernel
theorem d_M_add_200 : decode b_M_add 200 = .ok (.getfield 76, 3) := by decide +kernel
theorem d_M_add_203 : decode b_M_add 203 = .ok (.aload_n 0, 1) := by decide +kernel
theorem d_M_add_204 : decode b_M_add 204 = .ok (.getfield 82, 3) := by decide +kernel
theorem d_M_add_207 : decode b_M_add 207 = .ok (.aload_n 0, 1) := by decide +kernel
theorem d_M_add_208 : decode b_M_add 208 = .ok (.getfield 85, 3) := by decide +kernel
theorem d_M_add_211 : decode b_M_add 211 = .ok (.aload_n 0, 1) := by decide +kernel
theorem d_M_add_212 : decode b_M_add 212 = .ok (.getfield 27, 3) := by decide +kernel
theorem d_M_add_215 : decode b_M_add 215 = .ok (.aload_n 0, 1) := by decide +kernel
theorem d_M_add_216 : decode b_M_add 216 = .ok (.getfield 31, 3) := by decide +kernel
theorem d_M_add_219 : decode b_M_add 219 = .ok (.invokevirtual 188, 3) := by decide +kernel
theorem d_M_add_222 : decode b_M_add 222 = .ok (.aload_n 0, 1) := by decide +kernel
theorem d_M_add_223 : decode b_M_add 223 = .ok (.aload_n 0, 1) := by decide +kernel
theorem d_M_add_224 : decode b_M_add 224 = .ok (.getfield 76, 3) := by decide +kernel
theorem d_M_add_227 : decode b_M_add 227 = .ok (.aload_n 0, 1) := by decide +kernel
theorem d_M_add_228 : decode b_M_add 228 = .ok (.getfield 76, 3) := by decide +kernel
theorem d_M_add_231 : decode b_M_add 231 = .ok (.aload_n 0, 1) := by decide +kernel
theorem d_M_add_232 : decode b_M_add 232 = .ok (.getfield 27, 3) := by decide +kernel
theorem d_M_add_235 : decode b_M_add 235 = .ok (.invokevirtual 185, 3) := by decide +kernel
theorem d_M_add_238 : decode b_M_add 238 = .ok (.aload_n 0, 1) := by decide +kernel
theorem d_M_add_239 : decode b_M_add 239 = .ok (.aload_n 0, 1) := by decide +kernel
theorem d_M_add_240 : decode b_M_add 240 = .ok (.getfield 70, 3) := by decide +kernel
theorem d_M_add_243 : decode b_M_add 243 = .ok (.aload_n 0, 1) := by decide +kernel
theorem d_M_add_244 : decode b_M_add 244 = .ok (.getfield 70, 3) := by decide +kernel
theorem d_M_add_247 : decode b_M_add 247 = .ok (.aload_n 0, 1) := by decide +kernel
theorem d_M_add_248 : decode b_M_add 248 = .ok (.getfield 85, 3) := by decide +kernel
theorem d_M_add_251 : decode b_M_add 251 = .ok (.aload_n 0, 1) := by decide +kernel
theorem d_M_add_252 : decode b_M_add 252 = .ok (.getfield 27, 3) := by decide +kernel
theorem d_M_add_255 : decode b_M_add 255 = .ok (.aload_n 0, 1) := by decide +kernel
theorem d_M_add_256 : decode b_M_add 256 = .ok (.getfield 31, 3) := by decide +kernel
theorem d_M_add_259 : decode b_M_add 259 = .ok (.invokevirtual 188, 3) := by decide +kernel
theorem d_M_add_262 : decode b_M_add 262 = .ok (.aload_n 0, 1) := by decide +kernel
theorem d_M_add_263 : decode b_M_add 263 = .ok (.aload_n 1, 1) := by decide +kernel
theorem d_M_add_264 : decode b_M_add 264 = .ok (.aload_n 0, 1) := by decide +kernel
theorem d_M_add_265 : decode b_M_add 265 = .ok (.getfield 70, 3) := by decide +kernel
theorem d_M_add_268 : decode b_M_add 268 = .ok (.aload_n 0, 1) := by decide +kernel
theorem d_M_add_269 : decode b_M_add 269 = .ok (.getfield 76, 3) := by decide +kernel
theorem d_M_add_272 : decode b_M_add 272 = .ok (.aload_n 0, 1) := by decide +kernel
theorem d_M_add_273 : decode b_M_add 273 = .ok (.getfield 27, 3) := by decide +kernel
theorem d_M_add_276 : decode b_M_add 276 = .ok (.aload_n 0, 1) := by decide +kernel
theorem d_M_add_277 : decode b_M_add 277 = .ok (.getfield 31, 3) := by decide +kernel
theorem d_M_add_280 : decode b_M_add 280 = .ok (.invokevirtual 188, 3) := by decide +kernel
theorem d_M_add_283 : decode b_M_add 283 = .ok (.aload_n 0, 1) := by decide +kernel
theorem d_M_add_284 : decode b_M_add 284 = .ok (.aload_n 0, 1) := by decide +kernel
theorem d_M_add_285 : decode b_M_add 285 = .ok (.getfield 73, 3) := by decide +kernel
theorem d_M_add_288 : decode b_M_add 288 = .ok (.aload_n 0, 1) := by decide +kernel
theorem d_M_add_289 : decode b_M_add 289 = .ok (.getfield 73, 3) := by decide +kernel
theorem d_M_add_292 : decode b_M_add 292 = .ok (.aload_n 0, 1) := by decide +kernel
theorem d_M_add_293 : decode b_M_add 293 = .ok (.getfield 82, 3) := by decide +kernel
theorem d_M_add_296 : decode b_M_add 296 = .ok (.aload_n 0, 1) := by decide +kernel
theorem d_M_add_297 : decode b_M_add 297 = .ok (.getfield 27, 3) := by decide +kernel
theorem d_M_add_300 : decode b_M_add 300 = .ok (.aload_n 0, 1) := by decide +kernel
theorem d_M_add_301 : decode b_M_add 301 = .ok (.getfield 31, 3) := by decide +kernel
theorem d_M_add_304 : decode b_M_add 304 = .ok (.invokevirtual 188, 3) := by decide +kernel
theorem d_M_add_307 : decode b_M_add 307 = .ok (.aload_n 0, 1) := by decide +kernel
theorem d_M_add_308 : decode b_M_add 308 = .ok (.aload_n 2, 1) := by decide +kernel
theorem d_M_add_309 : decode b_M_add 309 = .ok (.aload_n 0, 1) := by decide +kernel
theorem d_M_add_310 : decode b_M_add 310 = .ok (.getfield 73, 3) := by decide +kernel
theorem d_M_add_313 : decode b_M_add 313 = .ok (.aload_n 0, 1) := by decide +kernel
theorem d_M_add_314 : decode b_M_add 314 = .ok (.getfield 76, 3) := by decide +kernel
theorem d_M_add_317 : decode b_M_add 317 = .ok (.aload_n 0, 1) := by decide +kernel
theorem d_M_add_318 : decode b_M_add 318 = .ok (.getfield 27, 3) := by decide +kernel
theorem d_M_add_321 : decode b_M_add 321 = .ok (.aload_n 0, 1) := by decide +kernel
theorem d_M_add_322 : decode b_M_add 322 = .ok (.getfield 31, 3) := by decide +kernel
theorem d_M_add_325 : decode b_M_add 325 = .ok (.invokevirtual 188, 3) := by decide +kernel
theorem d_M_add_328 : decode b_M_add 328 = .ok (.return_, 1) := by decide +kernel
theorem d_M_multiply_0 : decode b_M_multiply 0 = .ok (.aload_n 0, 1) := by decide +kernel
theorem d_M_multiply_1 : decode b_M_multiply 1 = .ok (.getfield 52, 3) := by decide +kernel
theorem d_M_multiply_4 : decode b_M_multiply 4 = .ok (.iconst 0, 1) := by decide +kernel
theorem d_M_multiply_5 : decode b_M_multiply 5 = .ok (.invokestatic 177, 3) := by decide +kernel
theorem d_M_multiply_8 : decode b_M_multiply 8 = .ok (.aload_n 0, 1) := by decide +kernel
theorem d_M_multiply_9 : decode b_M_multiply 9 = .ok (.getfield 55, 3) := by decide +kernel
theorem d_M_multiply_12 : decode b_M_multiply 12 = .ok (.iconst 1, 1) := by decide +kernel
theorem d_M_multiply_13 : decode b_M_multiply 13 = .ok (.invokestatic 177, 3) := by decide +kernel
theorem d_M_multiply_16 : decode b_M_multiply 16 = .ok (.sipush 255, 3) := by decide +kernel
theorem d_M_multiply_19 : decode b_M_multiply 19 = .ok (.istore_n 2, 1) := by decide +kernel
theorem d_M_multiply_20 : decode b_M_multiply 20 = .ok (.iload_n 2, 1) := by decide +kernel
theorem d_M_multiply_21 : decode b_M_multiply 21 = .ok (.ifCond .lt 78, 3) := by decide +kernel
theorem d_M_multiply_24 : decode b_M_multiply 24 = .ok (.aload_n 0, 1) := by decide +kernel
theorem d_M_multiply_25 : decode b_M_multiply 25 = .ok (.getfield 52, 3) := by decide +kernel
theorem d_M_multiply_28 : decode b_M_multiply 28 = .ok (.invokestatic 228, 3) := by decide +kernel
theorem d_M_multiply_31 : decode b_M_multiply 31 = .ok (.ifCond .eq 13, 3) := by decide +kernel
theorem d_M_multiply_34 : decode b_M_multiply 34 = .ok (.aload_n 0, 1) := by decide +kernel
theorem d_M_multiply_35 : decode b_M_multiply 35 = .ok (.getfield 55, 3) := by decide +kernel
theorem d_M_multiply_38 : decode b_M_multiply 38 = .ok (.invokestatic 232, 3) := by decide +kernel
theorem d_M_multiply_41 : decode b_M_multiply 41 = .ok (.ifCond .ne 23, 3) := by decide +kernel
theorem d_M_multiply_44 : decode b_M_multiply 44 = .ok (.aload_n 0, 1) := by decide +kernel
theorem d_M_multiply_45 : decode b_M_multiply 45 = .ok (.aload_n 0, 1) := by decide +kernel
theorem d_M_multiply_46 : decode b_M_multiply 46 = .ok (.getfield 52, 3) := by decide +kernel
theorem d_M_multiply_49 : decode b_M_multiply 49 = .ok (.aload_n 0, 1) := by decide +kernel
theorem d_M_multiply_50 : decode b_M_multiply 50 = .ok (.getfield 55, 3) := by decide +kernel
theorem d_M_multiply_53 : decode b_M_multiply 53 = .ok (.aload_n 0, 1) := by decide +kernel
theorem d_M_multiply_54 : decode b_M_multiply 54 = .ok (.getfield 52, 3) := by decide +kernel
theorem d_M_multiply_57 : decode b_M_multiply 57 = .ok (.aload_n 0, 1) := by decide +kernel
theorem d_M_multiply_58 : decode b_M_multiply 58 = .ok (.getfield 55, 3) := by decide +kernel
theorem d_M_multiply_61 : decode b_M_multiply 61 = .ok (.invokevirtual 284, 3) := by decide +kernel
theorem d_M_multiply_64 : decode b_M_multiply 64 = .ok (.aload_n 1, 1) := by decide +kernel
theorem d_M_multiply_65 : decode b_M_multiply 65 = .ok (.iload_n 2, 1) := by decide +kernel
theorem d_M_multiply_66 : decode b_M_multiply 66 = .ok (.invokestatic 273, 3) := by decide +kernel
theorem d_M_multiply_69 : decode b_M_multiply 69 = .ok (.iconst 1, 1) := by decide +kernel
theorem d_M_multiply_70 : decode b_M_multiply 70 = .ok (.if_icmp .ne 23, 3) := by decide +kernel
theorem d_M_multiply_73 : decode b_M_multiply 73 = .ok (.aload_n 0, 1) := by decide +kernel
theorem d_M_multiply_74 : decode b_M_multiply 74 = .ok (.aload_n 0, 1) := by decide +kernel
theorem d_M_multiply_75 : decode b_M_multiply 75 = .ok (.getfield 52, 3) := by decide +kernel
theorem d_M_multiply_78 : decode b_M_multiply 78 = .ok (.aload_n 0, 1) := by decide +kernel
theorem d_M_multiply_79 : decode b_M_multiply 79 = .ok (.getfield 55, 3) := by decide +kernel
theorem d_M_multiply_82 : decode b_M_multiply 82 = .ok (.aload_n 0, 1) := by decide +kernel
theorem d_M_multiply_83 : decode b_M_multiply 83 = .ok (.getfield 58, 3) := by decide +kernel
theorem d_M_multiply_86 : decode b_M_multiply 86 = .ok (.aload_n 0, 1) := by decide +kernel
theorem d_M_multiply_87 : decode b_M_multiply 87 = .ok (.getfield 61, 3) := by decide +kernel
theorem d_M_multiply_90 : decode b_M_multiply 90 = .ok (.invokevirtual 284, 3) := by decide +kernel
theorem d_M_multiply_93 : decode b_M_multiply 93 = .ok (.iinc 2 (-1), 3) := by decide +kernel
theorem d_M_multiply_96 : decode b_M_multiply 96 = .ok (.goto (-76), 3) := by decide +kernel
theorem d_M_multiply_99 : decode b_M_multiply 99 = .ok (.return_, 1) := by decide +kernel
theorem d_M_fromBase_0 : decode b_M_fromBase 0 = .ok (.aload_n 0, 1) := by decide +kernel
theorem d_M_fromBase_1 : decode b_M_fromBase 1 = .ok (.getfield 58, 3) := by decide +kernel
theorem d_M_fromBase_4 : decode b_M_fromBase 4 = .ok (.aload_n 0, 1) := by decide +kernel
theorem d_M_fromBase_5 : decode b_M_fromBase 5 = .ok (.getfield 46, 3) := by decide +kernel
theorem d_M_fromBase_8 : decode b_M_fromBase 8 = .ok (.invokestatic 207, 3) := by decide +kernel
theorem d_M_fromBase_11 : decode b_M_fromBase 11 = .ok (.aload_n 0, 1) := by decide +kernel
theorem d_M_fromBase_12 : decode b_M_fromBase 12 = .ok (.getfield 61, 3) := by decide +kernel
theorem d_M_fromBase_15 : decode b_M_fromBase 15 = .ok (.aload_n 0, 1) := by decide +kernel
theorem d_M_fromBase_16 : decode b_M_fromBase 16 = .ok (.getfield 49, 3) := by decide +kernel
theorem d_M_fromBase_19 : decode b_M_fromBase 19 = .ok (.invokestatic 207, 3) := by decide +kernel
theorem d_M_fromBase_22 : decode b_M_fromBase 22 = .ok (.aload_n 0, 1) := by decide +kernel
theorem d_M_fromBase_23 : decode b_M_fromBase 23 = .ok (.aload_n 1, 1) := by decide +kernel
theorem d_M_fromBase_24 : decode b_M_fromBase 24 = .ok (.invokevirtual 287, 3) := by decide +kernel
theorem d_M_fromBase_27 : decode b_M_fromBase 27 = .ok (.return_, 1) := by decide +kernel
theorem d_M_step_0 : decode b_M_step 0 = .ok (.aload_n 0, 1) := by decide +kernel
theorem d_M_step_1 : decode b_M_step 1 = .ok (.getfield 70, 3) := by decide +kernel
theorem d_M_step_4 : decode b_M_step 4 = .ok (.aload_n 1, 1) := by decide +kernel
theorem d_M_step_5 : decode b_M_step 5 = .ok (.aload_n 2, 1) := by decide +kernel
theorem d_M_step_6 : decode b_M_step 6 = .ok (.aload_n 0, 1) := by decide +kernel
theorem d_M_step_7 : decode b_M_step 7 = .ok (.getfield 27, 3) := by decide +kernel
theorem d_M_step_10 : decode b_M_step 10 = .ok (.invokestatic 222, 3) := by decide +kernel
theorem d_M_step_13 : decode b_M_step 13 = .ok (.aload_n 0, 1) := by decide +kernel
theorem d_M_step_14 : decode b_M_step 14 = .ok (.getfield 73, 3) := by decide +kernel
theorem d_M_step_17 : decode b_M_step 17 = .ok (.aload_n 1, 1) := by decide +kernel
theorem d_M_step_18 : decode b_M_step 18 = .ok (.aload_n 2, 1) := by decide +kernel
theorem d_M_step_19 : decode b_M_step 19 = .ok (.aload_n 0, 1) := by decide +kernel
theorem d_M_step_20 : decode b_M_step 20 = .ok (.getfield 27, 3) := by decide +kernel
theorem d_M_step_23 : decode b_M_step 23 = .ok (.invokestatic 192, 3) := by decide +kernel
theorem d_M_step_26 : decode b_M_step 26 = .ok (.aload_n 0, 1) := by decide +kernel
theorem d_M_step_27 : decode b_M_step 27 = .ok (.getfield 76, 3) := by decide +kernel
theorem d_M_step_30 : decode b_M_step 30 = .ok (.aload_n 3, 1) := by decide +kernel
theorem d_M_step_31 : decode b_M_step 31 = .ok (.aload 4, 2) := by decide +kernel
theorem d_M_step_33 : decode b_M_step 33 = .ok (.aload_n 0, 1) := by decide +kernel
theorem d_M_step_34 : decode b_M_step 34 = .ok (.getfield 27, 3) := by decide +kernel
theorem d_M_step_37 : decode b_M_step 37 = .ok (.invokestatic 222, 3) := by decide +kernel
theorem d_M_step_40 : decode b_M_step 40 = .ok (.aload_n 0, 1) := by decide +kernel
theorem d_M_step_41 : decode b_M_step 41 = .ok (.getfield 79, 3) := by decide +kernel
theorem d_M_step_44 : decode b_M_step 44 = .ok (.aload_n 3, 1) := by decide +kernel
theorem d_M_step_45 : decode b_M_step 45 = .ok (.aload 4, 2) := by decide +kernel
theorem d_M_step_47 : decode b_M_step 47 = .ok (.aload_n 0, 1) := by decide +kernel
theorem d_M_step_48 : decode b_M_step 48 = .ok (.getfield 27, 3) := by decide +kernel
theorem d_M_step_51 : decode b_M_step 51 = .ok (.invokestatic 192, 3) := by decide +kernel
theorem d_M_step_54 : decode b_M_step 54 = .ok (.aload_n 0, 1) := by decide +kernel
theorem d_M_step_55 : decode b_M_step 55 = .ok (.aload_n 0, 1) := by decide +kernel
theorem d_M_step_56 : decode b_M_step 56 = .ok (.getfield 79, 3) := by decide +kernel
theorem d_M_step_59 : decode b_M_step 59 = .ok (.aload_n 0, 1) := by decide +kernel
theorem d_M_step_60 : decode b_M_step 60 = .ok (.getfield 79, 3) := by decide +kernel
theorem d_M_step_63 : decode b_M_step 63 = .ok (.aload_n 0, 1) := by decide +kernel
theorem d_M_step_64 : decode b_M_step 64 = .ok (.getfield 70, 3) := by decide +kernel
theorem d_M_step_67 : decode b_M_step 67 = .ok (.aload_n 0, 1) := by decide +kernel
theorem d_M_step_68 : decode b_M_step 68 = .ok (.getfield 27, 3) := by decide +kernel
theorem d_M_step_71 : decode b_M_step 71 = .ok (.aload_n 0, 1) := by decide +kernel
theorem d_M_step_72 : decode b_M_step 72 = .ok (.getfield 31, 3) := by decide +kernel
theorem d_M_step_75 : decode b_M_step 75 = .ok (.invokevirtual 188, 3) := by decide +kernel
theorem d_M_step_78 : decode b_M_step 78 = .ok (.aload_n 0, 1) := by decide +kernel
theorem d_M_step_79 : decode b_M_step 79 = .ok (.aload_n 0, 1) := by decide +kernel
theorem d_M_step_80 : decode b_M_step 80 = .ok (.getfield 76, 3) := by decide +kernel
theorem d_M_step_83 : decode b_M_step 83 = .ok (.aload_n 0, 1) := by decide +kernel
theorem d_M_step_84 : decode b_M_step 84 = .ok (.getfield 76, 3) := by decide +kernel
theorem d_M_step_87 : decode b_M_step 87 = .ok (.aload_n 0, 1) := by decide +kernel
theorem d_M_step_88 : decode b_M_step 88 = .ok (.getfield 73, 3) := by decide +kernel
theorem d_M_step_91 : decode b_M_step 91 = .ok (.aload_n 0, 1) := by decide +kernel
theorem d_M_step_92 : decode b_M_step 92 = .ok (.getfield 27, 3) := by decide +kernel
theorem d_M_step_95 : decode b_M_step 95 = .ok (.aload_n 0, 1) := by decide +kernel
theorem d_M_step_96 : decode b_M_step 96 = .ok (.getfield 31, 3) := by decide +kernel
theorem d_M_step_99 : decode b_M_step 99 = .ok (.invokevirtual 188, 3) := by decide +kernel
theorem d_M_step_102 : decode b_M_step 102 = .ok (.aload_n 0, 1) := by decide +kernel
theorem d_M_step_103 : decode b_M_step 103 = .ok (.getfield 82, 3) := by decide +kernel
theorem d_M_step_106 : decode b_M_step 106 = .ok (.aload_n 0, 1) := by decide +kernel
theorem d_M_step_107 : decode b_M_step 107 = .ok (.getfield 79, 3) := by decide +kernel
theorem d_M_step_110 : decode b_M_step 110 = .ok (.aload_n 0, 1) := by decide +kernel
theorem d_M_step_111 : decode b_M_step 111 = .ok (.getfield 76, 3) := by decide +kernel
theorem d_M_step_114 : decode b_M_step 114 = .ok (.aload_n 0, 1) := by decide +kernel
theorem d_M_step_115 : decode b_M_step 115 = .ok (.getfield 27, 3) := by decide +kernel
theorem d_M_step_118 : decode b_M_step 118 = .ok (.invokestatic 222, 3) := by decide +kernel
theorem d_M_step_121 : decode b_M_step 121 = .ok (.aload_n 0, 1) := by decide +kernel
theorem d_M_step_122 : decode b_M_step 122 = .ok (.getfield 85, 3) := by decide +kernel
theorem d_M_step_125 : decode b_M_step 125 = .ok (.aload_n 0, 1) := by decide +kernel
theorem d_M_step_126 : decode b_M_step 126 = .ok (.getfield 79, 3) := by decide +kernel
theorem d_M_step_129 : decode b_M_step 129 = .ok (.aload_n 0, 1) := by decide +kernel
theorem d_M_step_130 : decode b_M_step 130 = .ok (.getfield 76, 3) := by decide +kernel
theorem d_M_step_133 : decode b_M_step 133 = .ok (.aload_n 0, 1) := by decide +kernel
theorem d_M_step_134 : decode b_M_step 134 = .ok (.getfield 27, 3) := by decide +kernel
theorem d_M_step_137 : decode b_M_step 137 = .ok (.invokestatic 192, 3) := by decide +kernel
theorem d_M_step_140 : decode b_M_step 140 = .ok (.aload_n 0, 1) := by decide +kernel
theorem d_M_step_141 : decode b_M_step 141 = .ok (.aload_n 3, 1) := by decide +kernel
theorem d_M_step_142 : decode b_M_step 142 = .ok (.aload_n 0, 1) := by decide +kernel
theorem d_M_step_143 : decode b_M_step 143 = .ok (.getfield 82, 3) := by decide +kernel
theorem d_M_step_146 : decode b_M_step 146 = .ok (.aload_n 0, 1) := by decide +kernel
theorem d_M_step_147 : decode b_M_step 147 = .ok (.getfield 82, 3) := by decide +kernel
theorem d_M_step_150 : decode b_M_step 150 = .ok (.aload_n 0, 1) := by decide +kernel
theorem d_M_step_151 : decode b_M_step 151 = .ok (.getfield 27, 3) := by decide +kernel
theorem d_M_step_154 : decode b_M_step 154 = .ok (.aload_n 0, 1) := by decide +kernel
theorem d_M_step_155 : decode b_M_step 155 = .ok (.getfield 31, 3) := by decide +kernel
theorem d_M_step_158 : decode b_M_step 158 = .ok (.invokevirtual 188, 3) := by decide +kernel
theorem d_M_step_161 : decode b_M_step 161 = .ok (.aload_n 0, 1) := by decide +kernel
theorem d_M_step_162 : decode b_M_step 162 = .ok (.aload_n 0, 1) := by decide +kernel
theorem d_M_step_163 : decode b_M_step 163 = .ok (.getfield 85, 3) := by decide +kernel
theorem d_M_step_166 : decode b_M_step 166 = .ok (.aload_n 0, 1) := by decide +kernel
theorem d_M_step_167 : decode b_M_step 167 = .ok (.getfield 85, 3) := by decide +kernel
theorem d_M_step_170 : decode b_M_step 170 = .ok (.aload_n 0, 1) := by decide +kernel
theorem d_M_step_171 : decode b_M_step 171 = .ok (.getfield 85, 3) := by decide +kernel
theorem d_M_step_174 : decode b_M_step 174 = .ok (.aload_n 0, 1) := by decide +kernel
theorem d_M_step_175 : decode b_M_step 175 = .ok (.getfield 27, 3) := by decide +kernel
theorem d_M_step_178 : decode b_M_step 178 = .ok (.aload_n 0, 1) := by decide +kernel
theorem d_M_step_179 : decode b_M_step 179 = .ok (.getfield 31, 3) := by decide +kernel
theorem d_M_step_182 : decode b_M_step 182 = .ok (.invokevirtual 188, 3) := by decide +kernel
theorem d_M_step_185 : decode b_M_step 185 = .ok (.aload_n 0, 1) := by decide +kernel
theorem d_M_step_186 : decode b_M_step 186 = .ok (.aload 4, 2) := by decide +kernel
theorem d_M_step_188 : decode b_M_step 188 = .ok (.aload_n 0, 1) := by decide +kernel
theorem d_M_step_189 : decode b_M_step 189 = .ok (.getfield 85, 3) := by decide +kernel
theorem d_M_step_192 : decode b_M_step 192 = .ok (.aload_n 0, 1) := by decide +kernel
theorem d_M_step_193 : decode b_M_step 193 = .ok (.getfield 97, 3) := by decide +kernel
theorem d_M_step_196 : decode b_M_step 196 = .ok (.aload_n 0, 1) := by decide +kernel
theorem d_M_step_197 : decode b_M_step 197 = .ok (.getfield 27, 3) := by decide +kernel
theorem d_M_step_200 : decode b_M_step 200 = .ok (.aload_n 0, 1) := by decide +kernel
theorem d_M_step_201 : decode b_M_step 201 = .ok (.getfield 31, 3) := by decide +kernel
theorem d_M_step_204 : decode b_M_step 204 = .ok (.invokevirtual 188, 3) := by decide +kernel
theorem d_M_step_207 : decode b_M_step 207 = .ok (.aload_n 0, 1) := by decide +kernel
theorem d_M_step_208 : decode b_M_step 208 = .ok (.aload_n 0, 1) := by decide +kernel
theorem d_M_step_209 : decode b_M_step 209 = .ok (.getfield 70, 3) := by decide +kernel
theorem d_M_step_212 : decode b_M_step 212 = .ok (.aload_n 0, 1) := by decide +kernel
theorem d_M_step_213 : decode b_M_step 213 = .ok (.getfield 70, 3) := by decide +kernel
theorem d_M_step_216 : decode b_M_step 216 = .ok (.aload_n 0, 1) := by decide +kernel
theorem d_M_step_217 : decode b_M_step 217 = .ok (.getfield 70, 3) := by decide +kernel
theorem d_M_step_220 : decode b_M_step 220 = .ok (.aload_n 0, 1) := by decide +kernel
theorem d_M_step_221 : decode b_M_step 221 = .ok (.getfield 27, 3) := by decide +kernel
theorem d_M_step_224 : decode b_M_step 224 = .ok (.aload_n 0, 1) := by decide +kernel
theorem d_M_step_225 : decode b_M_step 225 = .ok (.getfield 31, 3) := by decide +kernel
theorem d_M_step_228 : decode b_M_step 228 = .ok (.invokevirtual 188, 3) := by decide +kernel
theorem d_M_step_231 : decode b_M_step 231 = .ok (.aload_n 0, 1) := by decide +kernel
theorem d_M_step_232 : decode b_M_step 232 = .ok (.aload_n 0, 1) := by decide +kernel
theorem d_M_step_233 : decode b_M_step 233 = .ok (.getfield 73, 3) := by decide +kernel
theorem d_M_step_236 : decode b_M_step 236 = .ok (.aload_n 0, 1) := by decide +kernel
theorem d_M_step_237 : decode b_M_step 237 = .ok (.getfield 73, 3) := by decide +kernel
theorem d_M_step_240 : decode b_M_step 240 = .ok (.aload_n 0, 1) := by decide +kernel
theorem d_M_step_241 : decode b_M_step 241 = .ok (.getfield 73, 3) := by decide +kernel
theorem d_M_step_244 : decode b_M_step 244 = .ok (.aload_n 0, 1) := by decide +kernel
theorem d_M_step_245 : decode b_M_step 245 = .ok (.getfield 27, 3) := by decide +kernel
theorem d_M_step_248 : decode b_M_step 248 = .ok (.aload_n 0, 1) := by decide +kernel
theorem d_M_step_249 : decode b_M_step 249 = .ok (.getfield 31, 3) := by decide +kernel
theorem d_M_step_252 : decode b_M_step 252 = .ok (.invokevirtual 188, 3) := by decide +kernel
theorem d_M_step_255 : decode b_M_step 255 = .ok (.aload_n 0, 1) := by decide +kernel
theorem d_M_step_256 : decode b_M_step 256 = .ok (.aload_n 1, 1) := by decide +kernel
theorem d_M_step_257 : decode b_M_step 257 = .ok (.aload_n 0, 1) := by decide +kernel
theorem d_M_step_258 : decode b_M_step 258 = .ok (.getfield 70, 3) := by decide +kernel
theorem d_M_step_261 : decode b_M_step 261 = .ok (.aload_n 0, 1) := by decide +kernel
theorem d_M_step_262 : decode b_M_step 262 = .ok (.getfield 73, 3) := by decide +kernel
theorem d_M_step_265 : decode b_M_step 265 = .ok (.aload_n 0, 1) := by decide +kernel
theorem d_M_step_266 : decode b_M_step 266 = .ok (.getfield 27, 3) := by decide +kernel
theorem d_M_step_269 : decode b_M_step 269 = .ok (.aload_n 0, 1) := by decide +kernel
theorem d_M_step_270 : decode b_M_step 270 = .ok (.getfield 31, 3) := by decide +kernel
theorem d_M_step_273 : decode b_M_step 273 = .ok (.invokevirtual 188, 3) := by decide +kernel
theorem d_M_step_276 : decode b_M_step 276 = .ok (.aload_n 0, 1) := by decide +kernel
theorem d_M_step_277 : decode b_M_step 277 = .ok (.getfield 73, 3) := by decide +kernel
theorem d_M_step_280 : decode b_M_step 280 = .ok (.aload_n 0, 1) := by decide +kernel
theorem d_M_step_281 : decode b_M_step 281 = .ok (.getfield 70, 3) := by decide +kernel
theorem d_M_step_284 : decode b_M_step 284 = .ok (.aload_n 0, 1) := by decide +kernel
theorem d_M_step_285 : decode b_M_step 285 = .ok (.getfield 73, 3) := by decide +kernel
theorem d_M_step_288 : decode b_M_step 288 = .ok (.aload_n 0, 1) := by decide +kernel
theorem d_M_step_289 : decode b_M_step 289 = .ok (.getfield 27, 3) := by decide +kernel
theorem d_M_step_292 : decode b_M_step 292 = .ok (.invokestatic 192, 3) := by decide +kernel
theorem d_M_step_295 : decode b_M_step 295 = .ok (.aload_n 0, 1) := by decide +kernel
theorem d_M_step_296 : decode b_M_step 296 = .ok (.aload_n 0, 1) := by decide +kernel
theorem d_M_step_297 : decode b_M_step 297 = .ok (.getfield 76, 3) := by decide +kernel
theorem d_M_step_300 : decode b_M_step 300 = .ok (.aload_n 0, 1) := by decide +kernel
theorem d_M_step_301 : decode b_M_step 301 = .ok (.getfield 73, 3) := by decide +kernel
theorem d_M_step_304 : decode b_M_step 304 = .ok (.aload_n 0, 1) := by decide +kernel
theorem d_M_step_305 : decode b_M_step 305 = .ok (.getfield 100, 3) := by decide +kernel
theorem d_M_step_308 : decode b_M_step 308 = .ok (.aload_n 0, 1) := by decide +kernel
theorem d_M_step_309 : decode b_M_step 309 = .ok (.getfield 27, 3) := by decide +kernel
theorem d_M_step_312 : decode b_M_step 312 = .ok (.aload_n 0, 1) := by decide +kernel
theorem d_M_step_313 : decode b_M_step 313 = .ok (.getfield 31, 3) := by decide +kernel
theorem d_M_step_316 : decode b_M_step 316 = .ok (.invokevirtual 188, 3) := by decide +kernel
theorem d_M_step_319 : decode b_M_step 319 = .ok (.aload_n 0, 1) := by decide +kernel
theorem d_M_step_320 : decode b_M_step 320 = .ok (.getfield 76, 3) := by decide +kernel
theorem d_M_step_323 : decode b_M_step 323 = .ok (.aload_n 0, 1) := by decide +kernel
theorem d_M_step_324 : decode b_M_step 324 = .ok (.getfield 76, 3) := by decide +kernel
theorem d_M_step_327 : decode b_M_step 327 = .ok (.aload_n 0, 1) := by decide +kernel
theorem d_M_step_328 : decode b_M_step 328 = .ok (.getfield 70, 3) := by decide +kernel
theorem d_M_step_331 : decode b_M_step 331 = .ok (.aload_n 0, 1) := by decide +kernel
theorem d_M_step_332 : decode b_M_step 332 = .ok (.getfield 27, 3) := by decide +kernel
theorem d_M_step_335 : decode b_M_step 335 = .ok (.invokestatic 222, 3) := by decide +kernel
theorem d_M_step_338 : decode b_M_step 338 = .ok (.aload_n 0, 1) := by decide +kernel
theorem d_M_step_339 : decode b_M_step 339 = .ok (.aload_n 2, 1) := by decide +kernel
theorem d_M_step_340 : decode b_M_step 340 = .ok (.aload_n 0, 1) := by decide +kernel
theorem d_M_step_341 : decode b_M_step 341 = .ok (.getfield 73, 3) := by decide +kernel
theorem d_M_step_344 : decode b_M_step 344 = .ok (.aload_n 0, 1) := by decide +kernel
theorem d_M_step_345 : decode b_M_step 345 = .ok (.getfield 76, 3) := by decide +kernel
theorem d_M_step_348 : decode b_M_step 348 = .ok (.aload_n 0, 1) := by decide +kernel
theorem d_M_step_349 : decode b_M_step 349 = .ok (.getfield 27, 3) := by decide +kernel
theorem d_M_step_352 : decode b_M_step 352 = .ok (.aload_n 0, 1) := by decide +kernel
theorem d_M_step_353 : decode b_M_step 353 = .ok (.getfield 31, 3) := by decide +kernel
theorem d_M_step_356 : decode b_M_step 356 = .ok (.invokevirtual 188, 3) := by decide +kernel
theorem d_M_step_359 : decode b_M_step 359 = .ok (.return_, 1) := by decide +kernel
theorem d_M_ladder_0 : decode b_M_ladder 0 = .ok (.iconst 0, 1) := by decide +kernel
theorem d_M_ladder_1 : decode b_M_ladder 1 = .ok (.istore_n 1, 1) := by decide +kernel
theorem d_M_ladder_2 : decode b_M_ladder 2 = .ok (.iload_n 1, 1) := by decide +kernel
theorem d_M_ladder_3 : decode b_M_ladder 3 = .ok (.bipush 16, 2) := by decide +kernel
theorem d_M_ladder_5 : decode b_M_ladder 5 = .ok (.if_icmp .ge 65, 3) := by decide +kernel
theorem d_M_ladder_8 : decode b_M_ladder 8 = .ok (.aload_n 0, 1) := by decide +kernel
theorem d_M_ladder_9 : decode b_M_ladder 9 = .ok (.getfield 97, 3) := by decide +kernel
theorem d_M_ladder_12 : decode b_M_ladder 12 = .ok (.iload_n 1, 1) := by decide +kernel
theorem d_M_ladder_13 : decode b_M_ladder 13 = .ok (.aload_n 0, 1) := by decide +kernel
theorem d_M_ladder_14 : decode b_M_ladder 14 = .ok (.getfield 103, 3) := by decide +kernel
theorem d_M_ladder_17 : decode b_M_ladder 17 = .ok (.iconst 2, 1) := by decide +kernel
theorem d_M_ladder_18 : decode b_M_ladder 18 = .ok (.iload_n 1, 1) := by decide +kernel
theorem d_M_ladder_19 : decode b_M_ladder 19 = .ok (.imul, 1) := by decide +kernel
theorem d_M_ladder_20 : decode b_M_ladder 20 = .ok (.baload, 1) := by decide +kernel
theorem d_M_ladder_21 : decode b_M_ladder 21 = .ok (.sipush 255, 3) := by decide +kernel
theorem d_M_ladder_24 : decode b_M_ladder 24 = .ok (.iand, 1) := by decide +kernel
theorem d_M_ladder_25 : decode b_M_ladder 25 = .ok (.iload_n 1, 1) := by decide +kernel
theorem d_M_ladder_26 : decode b_M_ladder 26 = .ok (.bipush 15, 2) := by decide +kernel
theorem d_M_ladder_28 : decode b_M_ladder 28 = .ok (.if_icmp .ne 16, 3) := by decide +kernel
theorem d_M_ladder_31 : decode b_M_ladder 31 = .ok (.aload_n 0, 1) := by decide +kernel
theorem d_M_ladder_32 : decode b_M_ladder 32 = .ok (.getfield 103, 3) := by decide +kernel
theorem d_M_ladder_35 : decode b_M_ladder 35 = .ok (.bipush 31, 2) := by decide +kernel
theorem d_M_ladder_37 : decode b_M_ladder 37 = .ok (.baload, 1) := by decide +kernel
theorem d_M_ladder_38 : decode b_M_ladder 38 = .ok (.bipush 127, 2) := by decide +kernel
theorem d_M_ladder_40 : decode b_M_ladder 40 = .ok (.iand, 1) := by decide +kernel
theorem d_M_ladder_41 : decode b_M_ladder 41 = .ok (.goto 17, 3) := by decide +kernel
theorem d_M_ladder_44 : decode b_M_ladder 44 = .ok (.aload_n 0, 1) := by decide +kernel
theorem d_M_ladder_45 : decode b_M_ladder 45 = .ok (.getfield 103, 3) := by decide +kernel
theorem d_M_ladder_48 : decode b_M_ladder 48 = .ok (.iconst 2, 1) := by decide +kernel
theorem d_M_ladder_49 : decode b_M_ladder 49 = .ok (.iload_n 1, 1) := by decide +kernel
theorem d_M_ladder_50 : decode b_M_ladder 50 = .ok (.imul, 1) := by decide +kernel
theorem d_M_ladder_51 : decode b_M_ladder 51 = .ok (.iconst 1, 1) := by decide +kernel
theorem d_M_ladder_52 : decode b_M_ladder 52 = .ok (.iadd, 1) := by decide +kernel
theorem d_M_ladder_53 : decode b_M_ladder 53 = .ok (.baload, 1) := by decide +kernel
theorem d_M_ladder_54 : decode b_M_ladder 54 = .ok (.sipush 255, 3) := by decide +kernel
theorem d_M_ladder_57 : decode b_M_ladder 57 = .ok (.iand, 1) := by decide +kernel
theorem d_M_ladder_58 : decode b_M_ladder 58 = .ok (.bipush 8, 2) := by decide +kernel
theorem d_M_ladder_60 : decode b_M_ladder 60 = .ok (.ishl, 1) := by decide +kernel
theorem d_M_ladder_61 : decode b_M_ladder 61 = .ok (.ior, 1) := by decide +kernel
theorem d_M_ladder_62 : decode b_M_ladder 62 = .ok (.i2l, 1) := by decide +kernel
theorem d_M_ladder_63 : decode b_M_ladder 63 = .ok (.lastore, 1) := by decide +kernel
theorem d_M_ladder_64 : decode b_M_ladder 64 = .ok (.iinc 1 1, 3) := by decide +kernel
theorem d_M_ladder_67 : decode b_M_ladder 67 = .ok (.goto (-65), 3) := by decide +kernel
theorem d_M_ladder_70 : decode b_M_ladder 70 = .ok (.aload_n 0, 1) := by decide +kernel
theorem d_M_ladder_71 : decode b_M_ladder 71 = .ok (.getfield 97, 3) := by decide +kernel
theorem d_M_ladder_74 : decode b_M_ladder 74 = .ok (.aload_n 0, 1) := by decide +kernel
theorem d_M_ladder_75 : decode b_M_ladder 75 = .ok (.getfield 27, 3) := by decide +kernel
theorem d_M_ladder_78 : decode b_M_ladder 78 = .ok (.invokestatic 215, 3) := by decide +kernel
theorem d_M_ladder_81 : decode b_M_ladder 81 = .ok (.ifCond .ne 18, 3) := by decide +kernel
theorem d_M_ladder_84 : decode b_M_ladder 84 = .ok (.aload_n 0, 1) := by decide +kernel
theorem d_M_ladder_85 : decode b_M_ladder 85 = .ok (.getfield 97, 3) := by decide +kernel
theorem d_M_ladder_88 : decode b_M_ladder 88 = .ok (.aload_n 0, 1) := by decide +kernel
theorem d_M_ladder_89 : decode b_M_ladder 89 = .ok (.getfield 97, 3) := by decide +kernel
theorem d_M_ladder_92 : decode b_M_ladder 92 = .ok (.aload_n 0, 1) := by decide +kernel
theorem d_M_ladder_93 : decode b_M_ladder 93 = .ok (.getfield 27, 3) := by decide +kernel
theorem d_M_ladder_96 : decode b_M_ladder 96 = .ok (.invokestatic 219, 3) := by decide +kernel
theorem d_M_ladder_99 : decode b_M_ladder 99 = .ok (.aload_n 0, 1) := by decide +kernel
theorem d_M_ladder_100 : decode b_M_ladder 100 = .ok (.getfield 100, 3) := by decide +kernel
theorem d_M_ladder_103 : decode b_M_ladder 103 = .ok (.iconst 0, 1) := by decide +kernel
theorem d_M_ladder_104 : decode b_M_ladder 104 = .ok (.invokestatic 177, 3) := by decide +kernel
theorem d_M_ladder_107 : decode b_M_ladder 107 = .ok (.aload_n 0, 1) := by decide +kernel
theorem d_M_ladder_108 : decode b_M_ladder 108 = .ok (.getfield 100, 3) := by decide +kernel
theorem d_M_ladder_111 : decode b_M_ladder 111 = .ok (.iconst 0, 1) := by decide +kernel
theorem d_M_ladder_112 : decode b_M_ladder 112 = .ok (.ldc2_w 181, 3) := by decide +kernel
theorem d_M_ladder_115 : decode b_M_ladder 115 = .ok (.lastore, 1) := by decide +kernel
theorem d_M_ladder_116 : decode b_M_ladder 116 = .ok (.aload_n 0, 1) := by decide +kernel
theorem d_M_ladder_117 : decode b_M_ladder 117 = .ok (.getfield 100, 3) := by decide +kernel
theorem d_M_ladder_120 : decode b_M_ladder 120 = .ok (.iconst 1, 1) := by decide +kernel
theorem d_M_ladder_121 : decode b_M_ladder 121 = .ok (.lconst 1, 1) := by decide +kernel
theorem d_M_ladder_122 : decode b_M_ladder 122 = .ok (.lastore, 1) := by decide +kernel
theorem d_M_ladder_123 : decode b_M_ladder 123 = .ok (.aload_n 0, 1) := by decide +kernel
theorem d_M_ladder_124 : decode b_M_ladder 124 = .ok (.getfield 52, 3) := by decide +kernel
theorem d_M_ladder_127 : decode b_M_ladder 127 = .ok (.iconst 1, 1) := by decide +kernel
theorem d_M_ladder_128 : decode b_M_ladder 128 = .ok (.invokestatic 177, 3) := by decide +kernel
theorem d_M_ladder_131 : decode b_M_ladder 131 = .ok (.aload_n 0, 1) := by decide +kernel
theorem d_M_ladder_132 : decode b_M_ladder 132 = .ok (.getfield 55, 3) := by decide +kernel
theorem d_M_ladder_135 : decode b_M_ladder 135 = .ok (.iconst 0, 1) := by decide +kernel
theorem d_M_ladder_136 : decode b_M_ladder 136 = .ok (.invokestatic 177, 3) := by decide +kernel
theorem d_M_ladder_139 : decode b_M_ladder 139 = .ok (.aload_n 0, 1) := by decide +kernel
theorem d_M_ladder_140 : decode b_M_ladder 140 = .ok (.getfield 58, 3) := by decide +kernel
theorem d_M_ladder_143 : decode b_M_ladder 143 = .ok (.aload_n 0, 1) := by decide +kernel
theorem d_M_ladder_144 : decode b_M_ladder 144 = .ok (.getfield 97, 3) := by decide +kernel
theorem d_M_ladder_147 : decode b_M_ladder 147 = .ok (.invokestatic 207, 3) := by decide +kernel
theorem d_M_ladder_150 : decode b_M_ladder 150 = .ok (.aload_n 0, 1) := by decide +kernel
theorem d_M_ladder_151 : decode b_M_ladder 151 = .ok (.getfield 61, 3) := by decide +kernel
theorem d_M_ladder_154 : decode b_M_ladder 154 = .ok (.iconst 1, 1) := by decide +kernel
theorem d_M_ladder_155 : decode b_M_ladder 155 = .ok (.invokestatic 177, 3) := by decide +kernel
theorem d_M_ladder_158 : decode b_M_ladder 158 = .ok (.sipush 254, 3) := by decide +kernel
theorem d_M_ladder_161 : decode b_M_ladder 161 = .ok (.istore_n 1, 1) := by decide +kernel
theorem d_M_ladder_162 : decode b_M_ladder 162 = .ok (.iload_n 1, 1) := by decide +kernel
theorem d_M_ladder_163 : decode b_M_ladder 163 = .ok (.ifCond .lt 91, 3) := by decide +kernel
theorem d_M_ladder_166 : decode b_M_ladder 166 = .ok (.aload_n 0, 1) := by decide +kernel
theorem d_M_ladder_167 : decode b_M_ladder 167 = .ok (.getfield 91, 3) := by decide +kernel
theorem d_M_ladder_170 : decode b_M_ladder 170 = .ok (.iload_n 1, 1) := by decide +kernel
theorem d_M_ladder_171 : decode b_M_ladder 171 = .ok (.invokestatic 273, 3) := by decide +kernel
theorem d_M_ladder_174 : decode b_M_ladder 174 = .ok (.iconst 1, 1) := by decide +kernel
theorem d_M_ladder_175 : decode b_M_ladder 175 = .ok (.if_icmp .ne 7, 3) := by decide +kernel
theorem d_M_ladder_178 : decode b_M_ladder 178 = .ok (.iconst 1, 1) := by decide +kernel
theorem d_M_ladder_179 : decode b_M_ladder 179 = .ok (.goto 4, 3) := by decide +kernel
theorem d_M_ladder_182 : decode b_M_ladder 182 = .ok (.iconst 0, 1) := by decide +kernel
theorem d_M_ladder_183 : decode b_M_ladder 183 = .ok (.istore_n 2, 1) := by decide +kernel
theorem d_M_ladder_184 : decode b_M_ladder 184 = .ok (.aload_n 0, 1) := by decide +kernel
theorem d_M_ladder_185 : decode b_M_ladder 185 = .ok (.iload_n 2, 1) := by decide +kernel
theorem d_M_ladder_186 : decode b_M_ladder 186 = .ok (.ifCond .eq 10, 3) := by decide +kernel
theorem d_M_ladder_189 : decode b_M_ladder 189 = .ok (.aload_n 0, 1) := by decide +kernel
theorem d_M_ladder_190 : decode b_M_ladder 190 = .ok (.getfield 58, 3) := by decide +kernel
theorem d_M_ladder_193 : decode b_M_ladder 193 = .ok (.goto 7, 3) := by decide +kernel
theorem d_M_ladder_196 : decode b_M_ladder 196 = .ok (.aload_n 0, 1) := by decide +kernel
theorem d_M_ladder_197 : decode b_M_ladder 197 = .ok (.getfield 52, 3) := by decide +kernel
theorem d_M_ladder_200 : decode b_M_ladder 200 = .ok (.iload_n 2, 1) := by decide +kernel
theorem d_M_ladder_201 : decode b_M_ladder 201 = .ok (.ifCond .eq 10, 3) := by decide +kernel
theorem d_M_ladder_204 : decode b_M_ladder 204 = .ok (.aload_n 0, 1) := by decide +kernel
theorem d_M_ladder_205 : decode b_M_ladder 205 = .ok (.getfield 61, 3) := by decide +kernel
theorem d_M_ladder_208 : decode b_M_ladder 208 = .ok (.goto 7, 3) := by decide +kernel
theorem d_M_ladder_211 : decode b_M_ladder 211 = .ok (.aload_n 0, 1) := by decide +kernel
theorem d_M_ladder_212 : decode b_M_ladder 212 = .ok (.getfield 55, 3) := by decide +kernel
theorem d_M_ladder_215 : decode b_M_ladder 215 = .ok (.iload_n 2, 1) := by decide +kernel
theorem d_M_ladder_216 : decode b_M_ladder 216 = .ok (.ifCond .eq 10, 3) := by decide +kernel
theorem d_M_ladder_219 : decode b_M_ladder 219 = .ok (.aload_n 0, 1) := by decide +kernel
theorem d_M_ladder_220 : decode b_M_ladder 220 = .ok (.getfield 52, 3) := by decide +kernel
theorem d_M_ladder_223 : decode b_M_ladder 223 = .ok (.goto 7, 3) := by decide +kernel
theorem d_M_ladder_226 : decode b_M_ladder 226 = .ok (.aload_n 0, 1) := by decide +kernel
theorem d_M_ladder_227 : decode b_M_ladder 227 = .ok (.getfield 58, 3) := by decide +kernel
theorem d_M_ladder_230 : decode b_M_ladder 230 = .ok (.iload_n 2, 1) := by decide +kernel
theorem d_M_ladder_231 : decode b_M_ladder 231 = .ok (.ifCond .eq 10, 3) := by decide +kernel
theorem d_M_ladder_234 : decode b_M_ladder 234 = .ok (.aload_n 0, 1) := by decide +kernel
theorem d_M_ladder_235 : decode b_M_ladder 235 = .ok (.getfield 55, 3) := by decide +kernel
theorem d_M_ladder_238 : decode b_M_ladder 238 = .ok (.goto 7, 3) := by decide +kernel
theorem d_M_ladder_241 : decode b_M_ladder 241 = .ok (.aload_n 0, 1) := by decide +kernel
theorem d_M_ladder_242 : decode b_M_ladder 242 = .ok (.getfield 61, 3) := by decide +kernel
theorem d_M_ladder_245 : decode b_M_ladder 245 = .ok (.invokevirtual 312, 3) := by decide +kernel
theorem d_M_ladder_248 : decode b_M_ladder 248 = .ok (.iinc 1 (-1), 3) := by decide +kernel
theorem d_M_ladder_251 : decode b_M_ladder 251 = .ok (.goto (-89), 3) := by decide +kernel
theorem d_M_ladder_254 : decode b_M_ladder 254 = .ok (.aload_n 0, 1) := by decide +kernel
theorem d_M_ladder_255 : decode b_M_ladder 255 = .ok (.aload_n 0, 1) := by decide +kernel
theorem d_M_ladder_256 : decode b_M_ladder 256 = .ok (.getfield 76, 3) := by decide +kernel
theorem d_M_ladder_259 : decode b_M_ladder 259 = .ok (.aload_n 0, 1) := by decide +kernel
theorem d_M_ladder_260 : decode b_M_ladder 260 = .ok (.getfield 55, 3) := by decide +kernel
theorem d_M_ladder_263 : decode b_M_ladder 263 = .ok (.aload_n 0, 1) := by decide +kernel
theorem d_M_ladder_264 : decode b_M_ladder 264 = .ok (.getfield 27, 3) := by decide +kernel
theorem d_M_ladder_267 : decode b_M_ladder 267 = .ok (.invokevirtual 185, 3) := by decide +kernel
theorem d_M_ladder_270 : decode b_M_ladder 270 = .ok (.aload_n 0, 1) := by decide +kernel
theorem d_M_ladder_271 : decode b_M_ladder 271 = .ok (.aload_n 0, 1) := by decide +kernel
theorem d_M_ladder_272 : decode b_M_ladder 272 = .ok (.getfield 52, 3) := by decide +kernel
theorem d_M_ladder_275 : decode b_M_ladder 275 = .ok (.aload_n 0, 1) := by decide +kernel
theorem d_M_ladder_276 : decode b_M_ladder 276 = .ok (.getfield 52, 3) := by decide +kernel
theorem d_M_ladder_279 : decode b_M_ladder 279 = .ok (.aload_n 0, 1) := by decide +kernel
theorem d_M_ladder_280 : decode b_M_ladder 280 = .ok (.getfield 76, 3) := by decide +kernel
theorem d_M_ladder_283 : decode b_M_ladder 283 = .ok (.aload_n 0, 1) := by decide +kernel
theorem d_M_ladder_284 : decode b_M_ladder 284 = .ok (.getfield 27, 3) := by decide +kernel
theorem d_M_ladder_287 : decode b_M_ladder 287 = .ok (.aload_n 0, 1) := by decide +kernel
theorem d_M_ladder_288 : decode b_M_ladder 288 = .ok (.getfield 31, 3) := by decide +kernel
theorem d_M_ladder_291 : decode b_M_ladder 291 = .ok (.invokevirtual 188, 3) := by decide +kernel
theorem d_M_ladder_294 : decode b_M_ladder 294 = .ok (.iconst 0, 1) := by decide +kernel
theorem d_M_ladder_295 : decode b_M_ladder 295 = .ok (.istore_n 1, 1) := by decide +kernel
theorem d_M_ladder_296 : decode b_M_ladder 296 = .ok (.iload_n 1, 1) := by decide +kernel
theorem d_M_ladder_297 : decode b_M_ladder 297 = .ok (.bipush 32, 2) := by decide +kernel
theorem d_M_ladder_299 : decode b_M_ladder 299 = .ok (.if_icmp .ge 32, 3) := by decide +kernel
theorem d_M_ladder_302 : decode b_M_ladder 302 = .ok (.aload_n 0, 1) := by decide +kernel
theorem d_M_ladder_303 : decode b_M_ladder 303 = .ok (.getfield 103, 3) := by decide +kernel
theorem d_M_ladder_306 : decode b_M_ladder 306 = .ok (.iload_n 1, 1) := by decide +kernel
theorem d_M_ladder_307 : decode b_M_ladder 307 = .ok (.aload_n 0, 1) := by decide +kernel
theorem d_M_ladder_308 : decode b_M_ladder 308 = .ok (.getfield 52, 3) := by decide +kernel
theorem d_M_ladder_311 : decode b_M_ladder 311 = .ok (.iload_n 1, 1) := by decide +kernel
theorem d_M_ladder_312 : decode b_M_ladder 312 = .ok (.iconst 2, 1) := by decide +kernel
theorem d_M_ladder_313 : decode b_M_ladder 313 = .ok (.idiv, 1) := by decide +kernel
theorem d_M_ladder_314 : decode b_M_ladder 314 = .ok (.laload, 1) := by decide +kernel
theorem d_M_ladder_315 : decode b_M_ladder 315 = .ok (.bipush 8, 2) := by decide +kernel
theorem d_M_ladder_317 : decode b_M_ladder 317 = .ok (.iload_n 1, 1) := by decide +kernel
theorem d_M_ladder_318 : decode b_M_ladder 318 = .ok (.iconst 2, 1) := by decide +kernel
theorem d_M_ladder_319 : decode b_M_ladder 319 = .ok (.irem, 1) := by decide +kernel
theorem d_M_ladder_320 : decode b_M_ladder 320 = .ok (.imul, 1) := by decide +kernel
theorem d_M_ladder_321 : decode b_M_ladder 321 = .ok (.lshr, 1) := by decide +kernel
theorem d_M_ladder_322 : decode b_M_ladder 322 = .ok (.l2i, 1) := by decide +kernel
theorem d_M_ladder_323 : decode b_M_ladder 323 = .ok (.i2b, 1) := by decide +kernel
theorem d_M_ladder_324 : decode b_M_ladder 324 = .ok (.bastore, 1) := by decide +kernel
theorem d_M_ladder_325 : decode b_M_ladder 325 = .ok (.iinc 1 1, 3) := by decide +kernel
theorem d_M_ladder_328 : decode b_M_ladder 328 = .ok (.goto (-32), 3) := by decide +kernel
theorem d_M_ladder_331 : decode b_M_ladder 331 = .ok (.return_, 1) := by decide +kernel
theorem d_M_opened_0 : decode b_M_opened 0 = .ok (.iconst 0, 1) := by decide +kernel
theorem d_M_opened_1 : decode b_M_opened 1 = .ok (.istore_n 2, 1) := by decide +kernel
theorem d_M_opened_2 : decode b_M_opened 2 = .ok (.iload_n 2, 1) := by decide +kernel
theorem d_M_opened_3 : decode b_M_opened 3 = .ok (.bipush 32, 2) := by decide +kernel
theorem d_M_opened_5 : decode b_M_opened 5 = .ok (.if_icmp .ge 26, 3) := by decide +kernel
theorem d_M_opened_8 : decode b_M_opened 8 = .ok (.aload_n 0, 1) := by decide +kernel
theorem d_M_opened_9 : decode b_M_opened 9 = .ok (.getfield 113, 3) := by decide +kernel
theorem d_M_opened_12 : decode b_M_opened 12 = .ok (.iload_n 2, 1) := by decide +kernel
theorem d_M_opened_13 : decode b_M_opened 13 = .ok (.aload_n 0, 1) := by decide +kernel
theorem d_M_opened_14 : decode b_M_opened 14 = .ok (.getfield 20, 3) := by decide +kernel
theorem d_M_opened_17 : decode b_M_opened 17 = .ok (.bipush 32, 2) := by decide +kernel
theorem d_M_opened_19 : decode b_M_opened 19 = .ok (.iload_n 1, 1) := by decide +kernel
theorem d_M_opened_20 : decode b_M_opened 20 = .ok (.imul, 1) := by decide +kernel
theorem d_M_opened_21 : decode b_M_opened 21 = .ok (.iload_n 2, 1) := by decide +kernel
theorem d_M_opened_22 : decode b_M_opened 22 = .ok (.iadd, 1) := by decide +kernel
theorem d_M_opened_23 : decode b_M_opened 23 = .ok (.baload, 1) := by decide +kernel
theorem d_M_opened_24 : decode b_M_opened 24 = .ok (.bastore, 1) := by decide +kernel
theorem d_M_opened_25 : decode b_M_opened 25 = .ok (.iinc 2 1, 3) := by decide +kernel
theorem d_M_opened_28 : decode b_M_opened 28 = .ok (.goto (-26), 3) := by decide +kernel
theorem d_M_opened_31 : decode b_M_opened 31 = .ok (.aload_n 0, 1) := by decide +kernel
theorem d_M_opened_32 : decode b_M_opened 32 = .ok (.aload_n 0, 1) := by decide +kernel
theorem d_M_opened_33 : decode b_M_opened 33 = .ok (.getfield 113, 3) := by decide +kernel
theorem d_M_opened_36 : decode b_M_opened 36 = .ok (.bipush 32, 2) := by decide +kernel
theorem d_M_opened_38 : decode b_M_opened 38 = .ok (.invokevirtual 294, 3) := by decide +kernel
theorem d_M_opened_41 : decode b_M_opened 41 = .ok (.aload_n 0, 1) := by decide +kernel
theorem d_M_opened_42 : decode b_M_opened 42 = .ok (.aload_n 0, 1) := by decide +kernel
theorem d_M_opened_43 : decode b_M_opened 43 = .ok (.getfield 94, 3) := by decide +kernel
theorem d_M_opened_46 : decode b_M_opened 46 = .ok (.aload_n 0, 1) := by decide +kernel
theorem d_M_opened_47 : decode b_M_opened 47 = .ok (.getfield 159, 3) := by decide +kernel
theorem d_M_opened_50 : decode b_M_opened 50 = .ok (.iconst 0, 1) := by decide +kernel
theorem d_M_opened_51 : decode b_M_opened 51 = .ok (.invokevirtual 298, 3) := by decide +kernel
theorem d_M_opened_54 : decode b_M_opened 54 = .ok (.aload_n 0, 1) := by decide +kernel
theorem d_M_opened_55 : decode b_M_opened 55 = .ok (.aload_n 0, 1) := by decide +kernel
theorem d_M_opened_56 : decode b_M_opened 56 = .ok (.getfield 94, 3) := by decide +kernel
theorem d_M_opened_59 : decode b_M_opened 59 = .ok (.invokevirtual 302, 3) := by decide +kernel
theorem d_M_opened_62 : decode b_M_opened 62 = .ok (.aload_n 0, 1) := by decide +kernel
theorem d_M_opened_63 : decode b_M_opened 63 = .ok (.aload_n 0, 1) := by decide +kernel
theorem d_M_opened_64 : decode b_M_opened 64 = .ok (.getfield 106, 3) := by decide +kernel
theorem d_M_opened_67 : decode b_M_opened 67 = .ok (.aload_n 0, 1) := by decide +kernel
theorem d_M_opened_68 : decode b_M_opened 68 = .ok (.getfield 52, 3) := by decide +kernel
theorem d_M_opened_71 : decode b_M_opened 71 = .ok (.aload_n 0, 1) := by decide +kernel
theorem d_M_opened_72 : decode b_M_opened 72 = .ok (.getfield 55, 3) := by decide +kernel
theorem d_M_opened_75 : decode b_M_opened 75 = .ok (.invokevirtual 305, 3) := by decide +kernel
theorem d_M_opened_78 : decode b_M_opened 78 = .ok (.return_, 1) := by decide +kernel
theorem d_M_verified_0 : decode b_M_verified 0 = .ok (.iconst 0, 1) := by decide +kernel
theorem d_M_verified_1 : decode b_M_verified 1 = .ok (.istore_n 1, 1) := by decide +kernel
theorem d_M_verified_2 : decode b_M_verified 2 = .ok (.iload_n 1, 1) := by decide +kernel
theorem d_M_verified_3 : decode b_M_verified 3 = .ok (.bipush 16, 2) := by decide +kernel
theorem d_M_verified_5 : decode b_M_verified 5 = .ok (.if_icmp .ge 50, 3) := by decide +kernel
theorem d_M_verified_8 : decode b_M_verified 8 = .ok (.aload_n 0, 1) := by decide +kernel
theorem d_M_verified_9 : decode b_M_verified 9 = .ok (.getfield 91, 3) := by decide +kernel
theorem d_M_verified_12 : decode b_M_verified 12 = .ok (.iload_n 1, 1) := by decide +kernel
theorem d_M_verified_13 : decode b_M_verified 13 = .ok (.aload_n 0, 1) := by decide +kernel
theorem d_M_verified_14 : decode b_M_verified 14 = .ok (.getfield 8, 3) := by decide +kernel
theorem d_M_verified_17 : decode b_M_verified 17 = .ok (.bipush 64, 2) := by decide +kernel
theorem d_M_verified_19 : decode b_M_verified 19 = .ok (.iconst 2, 1) := by decide +kernel
theorem d_M_verified_20 : decode b_M_verified 20 = .ok (.iload_n 1, 1) := by decide +kernel
theorem d_M_verified_21 : decode b_M_verified 21 = .ok (.imul, 1) := by decide +kernel
theorem d_M_verified_22 : decode b_M_verified 22 = .ok (.iadd, 1) := by decide +kernel
theorem d_M_verified_23 : decode b_M_verified 23 = .ok (.baload, 1) := by decide +kernel
theorem d_M_verified_24 : decode b_M_verified 24 = .ok (.sipush 255, 3) := by decide +kernel
theorem d_M_verified_27 : decode b_M_verified 27 = .ok (.iand, 1) := by decide +kernel
theorem d_M_verified_28 : decode b_M_verified 28 = .ok (.aload_n 0, 1) := by decide +kernel
theorem d_M_verified_29 : decode b_M_verified 29 = .ok (.getfield 8, 3) := by decide +kernel
theorem d_M_verified_32 : decode b_M_verified 32 = .ok (.bipush 65, 2) := by decide +kernel
theorem d_M_verified_34 : decode b_M_verified 34 = .ok (.iconst 2, 1) := by decide +kernel
theorem d_M_verified_35 : decode b_M_verified 35 = .ok (.iload_n 1, 1) := by decide +kernel
theorem d_M_verified_36 : decode b_M_verified 36 = .ok (.imul, 1) := by decide +kernel
theorem d_M_verified_37 : decode b_M_verified 37 = .ok (.iadd, 1) := by decide +kernel
theorem d_M_verified_38 : decode b_M_verified 38 = .ok (.baload, 1) := by decide +kernel
theorem d_M_verified_39 : decode b_M_verified 39 = .ok (.sipush 255, 3) := by decide +kernel
theorem d_M_verified_42 : decode b_M_verified 42 = .ok (.iand, 1) := by decide +kernel
theorem d_M_verified_43 : decode b_M_verified 43 = .ok (.bipush 8, 2) := by decide +kernel
theorem d_M_verified_45 : decode b_M_verified 45 = .ok (.ishl, 1) := by decide +kernel
theorem d_M_verified_46 : decode b_M_verified 46 = .ok (.ior, 1) := by decide +kernel
theorem d_M_verified_47 : decode b_M_verified 47 = .ok (.i2l, 1) := by decide +kernel
theorem d_M_verified_48 : decode b_M_verified 48 = .ok (.lastore, 1) := by decide +kernel
theorem d_M_verified_49 : decode b_M_verified 49 = .ok (.iinc 1 1, 3) := by decide +kernel
theorem d_M_verified_52 : decode b_M_verified 52 = .ok (.goto (-50), 3) := by decide +kernel
theorem d_M_verified_55 : decode b_M_verified 55 = .ok (.aload_n 0, 1) := by decide +kernel
theorem d_M_verified_56 : decode b_M_verified 56 = .ok (.getfield 91, 3) := by decide +kernel
theorem d_M_verified_59 : decode b_M_verified 59 = .ok (.aload_n 0, 1) := by decide +kernel
theorem d_M_verified_60 : decode b_M_verified 60 = .ok (.getfield 34, 3) := by decide +kernel
theorem d_M_verified_63 : decode b_M_verified 63 = .ok (.invokestatic 215, 3) := by decide +kernel
theorem d_M_verified_66 : decode b_M_verified 66 = .ok (.ifCond .ne 5, 3) := by decide +kernel
theorem d_M_verified_69 : decode b_M_verified 69 = .ok (.iconst 1, 1) := by decide +kernel
theorem d_M_verified_70 : decode b_M_verified 70 = .ok (.ireturn, 1) := by decide +kernel
theorem d_M_verified_71 : decode b_M_verified 71 = .ok (.iconst 0, 1) := by decide +kernel
theorem d_M_verified_72 : decode b_M_verified 72 = .ok (.istore_n 1, 1) := by decide +kernel
theorem d_M_verified_73 : decode b_M_verified 73 = .ok (.iload_n 1, 1) := by decide +kernel
theorem d_M_verified_74 : decode b_M_verified 74 = .ok (.bipush 32, 2) := by decide +kernel
theorem d_M_verified_76 : decode b_M_verified 76 = .ok (.if_icmp .ge 21, 3) := by decide +kernel
theorem d_M_verified_79 : decode b_M_verified 79 = .ok (.aload_n 0, 1) := by decide +kernel
theorem d_M_verified_80 : decode b_M_verified 80 = .ok (.getfield 103, 3) := by decide +kernel
theorem d_M_verified_83 : decode b_M_verified 83 = .ok (.iload_n 1, 1) := by decide +kernel
theorem d_M_verified_84 : decode b_M_verified 84 = .ok (.aload_n 0, 1) := by decide +kernel
theorem d_M_verified_85 : decode b_M_verified 85 = .ok (.getfield 8, 3) := by decide +kernel
theorem d_M_verified_88 : decode b_M_verified 88 = .ok (.iload_n 1, 1) := by decide +kernel
theorem d_M_verified_89 : decode b_M_verified 89 = .ok (.baload, 1) := by decide +kernel
theorem d_M_verified_90 : decode b_M_verified 90 = .ok (.bastore, 1) := by decide +kernel
theorem d_M_verified_91 : decode b_M_verified 91 = .ok (.iinc 1 1, 3) := by decide +kernel
theorem d_M_verified_94 : decode b_M_verified 94 = .ok (.goto (-21), 3) := by decide +kernel
theorem d_M_verified_97 : decode b_M_verified 97 = .ok (.aload_n 0, 1) := by decide +kernel
theorem d_M_verified_98 : decode b_M_verified 98 = .ok (.invokevirtual 203, 3) := by decide +kernel
theorem d_M_verified_101 : decode b_M_verified 101 = .ok (.ifCond .ne 5, 3) := by decide +kernel
theorem d_M_verified_104 : decode b_M_verified 104 = .ok (.iconst 2, 1) := by decide +kernel
theorem d_M_verified_105 : decode b_M_verified 105 = .ok (.ireturn, 1) := by decide +kernel
theorem d_M_verified_106 : decode b_M_verified 106 = .ok (.iconst 0, 1) := by decide +kernel
theorem d_M_verified_107 : decode b_M_verified 107 = .ok (.istore_n 1, 1) := by decide +kernel
theorem d_M_verified_108 : decode b_M_verified 108 = .ok (.iload_n 1, 1) := by decide +kernel
theorem d_M_verified_109 : decode b_M_verified 109 = .ok (.bipush 32, 2) := by decide +kernel
theorem d_M_verified_111 : decode b_M_verified 111 = .ok (.if_icmp .ge 39, 3) := by decide +kernel
theorem d_M_verified_114 : decode b_M_verified 114 = .ok (.aload_n 0, 1) := by decide +kernel
theorem d_M_verified_115 : decode b_M_verified 115 = .ok (.getfield 113, 3) := by decide +kernel
theorem d_M_verified_118 : decode b_M_verified 118 = .ok (.iload_n 1, 1) := by decide +kernel
theorem d_M_verified_119 : decode b_M_verified 119 = .ok (.aload_n 0, 1) := by decide +kernel
theorem d_M_verified_120 : decode b_M_verified 120 = .ok (.getfield 8, 3) := by decide +kernel
theorem d_M_verified_123 : decode b_M_verified 123 = .ok (.bipush 32, 2) := by decide +kernel
theorem d_M_verified_125 : decode b_M_verified 125 = .ok (.iload_n 1, 1) := by decide +kernel
theorem d_M_verified_126 : decode b_M_verified 126 = .ok (.iadd, 1) := by decide +kernel
theorem d_M_verified_127 : decode b_M_verified 127 = .ok (.baload, 1) := by decide +kernel
theorem d_M_verified_128 : decode b_M_verified 128 = .ok (.bastore, 1) := by decide +kernel
theorem d_M_verified_129 : decode b_M_verified 129 = .ok (.aload_n 0, 1) := by decide +kernel
theorem d_M_verified_130 : decode b_M_verified 130 = .ok (.getfield 113, 3) := by decide +kernel
theorem d_M_verified_133 : decode b_M_verified 133 = .ok (.bipush 32, 2) := by decide +kernel
theorem d_M_verified_135 : decode b_M_verified 135 = .ok (.iload_n 1, 1) := by decide +kernel
theorem d_M_verified_136 : decode b_M_verified 136 = .ok (.iadd, 1) := by decide +kernel
theorem d_M_verified_137 : decode b_M_verified 137 = .ok (.aload_n 0, 1) := by decide +kernel
theorem d_M_verified_138 : decode b_M_verified 138 = .ok (.getfield 8, 3) := by decide +kernel
theorem d_M_verified_141 : decode b_M_verified 141 = .ok (.iload_n 1, 1) := by decide +kernel
theorem d_M_verified_142 : decode b_M_verified 142 = .ok (.baload, 1) := by decide +kernel
theorem d_M_verified_143 : decode b_M_verified 143 = .ok (.bastore, 1) := by decide +kernel
theorem d_M_verified_144 : decode b_M_verified 144 = .ok (.iinc 1 1, 3) := by decide +kernel
theorem d_M_verified_147 : decode b_M_verified 147 = .ok (.goto (-39), 3) := by decide +kernel
theorem d_M_verified_150 : decode b_M_verified 150 = .ok (.aload_n 0, 1) := by decide +kernel
theorem d_M_verified_151 : decode b_M_verified 151 = .ok (.bipush 64, 2) := by decide +kernel
theorem d_M_verified_153 : decode b_M_verified 153 = .ok (.invokevirtual 343, 3) := by decide +kernel
theorem d_M_verified_156 : decode b_M_verified 156 = .ok (.aload_n 0, 1) := by decide +kernel
theorem d_M_verified_157 : decode b_M_verified 157 = .ok (.aload_n 0, 1) := by decide +kernel
theorem d_M_verified_158 : decode b_M_verified 158 = .ok (.getfield 97, 3) := by decide +kernel
theorem d_M_verified_161 : decode b_M_verified 161 = .ok (.invokevirtual 346, 3) := by decide +kernel
theorem d_M_verified_164 : decode b_M_verified 164 = .ok (.aload_n 0, 1) := by decide +kernel
theorem d_M_verified_165 : decode b_M_verified 165 = .ok (.getfield 76, 3) := by decide +kernel
theorem d_M_verified_168 : decode b_M_verified 168 = .ok (.iconst 0, 1) := by decide +kernel
theorem d_M_verified_169 : decode b_M_verified 169 = .ok (.invokestatic 177, 3) := by decide +kernel
theorem d_M_verified_172 : decode b_M_verified 172 = .ok (.aload_n 0, 1) := by decide +kernel
theorem d_M_verified_173 : decode b_M_verified 173 = .ok (.getfield 58, 3) := by decide +kernel
theorem d_M_verified_176 : decode b_M_verified 176 = .ok (.aload_n 0, 1) := by decide +kernel
theorem d_M_verified_177 : decode b_M_verified 177 = .ok (.getfield 76, 3) := by decide +kernel
theorem d_M_verified_180 : decode b_M_verified 180 = .ok (.aload_n 0, 1) := by decide +kernel
theorem d_M_verified_181 : decode b_M_verified 181 = .ok (.getfield 58, 3) := by decide +kernel
theorem d_M_verified_184 : decode b_M_verified 184 = .ok (.aload_n 0, 1) := by decide +kernel
theorem d_M_verified_185 : decode b_M_verified 185 = .ok (.getfield 27, 3) := by decide +kernel
theorem d_M_verified_188 : decode b_M_verified 188 = .ok (.invokestatic 192, 3) := by decide +kernel
theorem d_M_verified_191 : decode b_M_verified 191 = .ok (.aload_n 0, 1) := by decide +kernel
theorem d_M_verified_192 : decode b_M_verified 192 = .ok (.aload_n 0, 1) := by decide +kernel
theorem d_M_verified_193 : decode b_M_verified 193 = .ok (.getfield 97, 3) := by decide +kernel
theorem d_M_verified_196 : decode b_M_verified 196 = .ok (.invokevirtual 287, 3) := by decide +kernel
theorem d_M_verified_199 : decode b_M_verified 199 = .ok (.aload_n 0, 1) := by decide +kernel
theorem d_M_verified_200 : decode b_M_verified 200 = .ok (.getfield 64, 3) := by decide +kernel
theorem d_M_verified_203 : decode b_M_verified 203 = .ok (.aload_n 0, 1) := by decide +kernel
theorem d_M_verified_204 : decode b_M_verified 204 = .ok (.getfield 52, 3) := by decide +kernel
theorem d_M_verified_207 : decode b_M_verified 207 = .ok (.invokestatic 207, 3) := by decide +kernel
theorem d_M_verified_210 : decode b_M_verified 210 = .ok (.aload_n 0, 1) := by decide +kernel
theorem d_M_verified_211 : decode b_M_verified 211 = .ok (.getfield 67, 3) := by decide +kernel
theorem d_M_verified_214 : decode b_M_verified 214 = .ok (.aload_n 0, 1) := by decide +kernel
theorem d_M_verified_215 : decode b_M_verified 215 = .ok (.getfield 55, 3) := by decide +kernel
theorem d_M_verified_218 : decode b_M_verified 218 = .ok (.invokestatic 207, 3) := by decide +kernel
theorem d_M_verified_221 : decode b_M_verified 221 = .ok (.aload_n 0, 1) := by decide +kernel
theorem d_M_verified_222 : decode b_M_verified 222 = .ok (.aload_n 0, 1) := by decide +kernel
theorem d_M_verified_223 : decode b_M_verified 223 = .ok (.getfield 91, 3) := by decide +kernel
theorem d_M_verified_226 : decode b_M_verified 226 = .ok (.invokevirtual 302, 3) := by decide +kernel
theorem d_M_verified_229 : decode b_M_verified 229 = .ok (.aload_n 0, 1) := by decide +kernel
theorem d_M_verified_230 : decode b_M_verified 230 = .ok (.aload_n 0, 1) := by decide +kernel
theorem d_M_verified_231 : decode b_M_verified 231 = .ok (.getfield 52, 3) := by decide +kernel
theorem d_M_verified_234 : decode b_M_verified 234 = .ok (.aload_n 0, 1) := by decide +kernel
theorem d_M_verified_235 : decode b_M_verified 235 = .ok (.getfield 55, 3) := by decide +kernel
theorem d_M_verified_238 : decode b_M_verified 238 = .ok (.aload_n 0, 1) := by decide +kernel
theorem d_M_verified_239 : decode b_M_verified 239 = .ok (.getfield 64, 3) := by decide +kernel
theorem d_M_verified_242 : decode b_M_verified 242 = .ok (.aload_n 0, 1) := by decide +kernel
theorem d_M_verified_243 : decode b_M_verified 243 = .ok (.getfield 67, 3) := by decide +kernel
theorem d_M_verified_246 : decode b_M_verified 246 = .ok (.invokevirtual 284, 3) := by decide +kernel
theorem d_M_verified_249 : decode b_M_verified 249 = .ok (.aload_n 0, 1) := by decide +kernel
theorem d_M_verified_250 : decode b_M_verified 250 = .ok (.aload_n 0, 1) := by decide +kernel
theorem d_M_verified_251 : decode b_M_verified 251 = .ok (.getfield 109, 3) := by decide +kernel
theorem d_M_verified_254 : decode b_M_verified 254 = .ok (.aload_n 0, 1) := by decide +kernel
theorem d_M_verified_255 : decode b_M_verified 255 = .ok (.getfield 52, 3) := by decide +kernel
theorem d_M_verified_258 : decode b_M_verified 258 = .ok (.aload_n 0, 1) := by decide +kernel
theorem d_M_verified_259 : decode b_M_verified 259 = .ok (.getfield 55, 3) := by decide +kernel
theorem d_M_verified_262 : decode b_M_verified 262 = .ok (.invokevirtual 305, 3) := by decide +kernel
theorem d_M_verified_265 : decode b_M_verified 265 = .ok (.iconst 0, 1) := by decide +kernel
theorem d_M_verified_266 : decode b_M_verified 266 = .ok (.istore_n 1, 1) := by decide +kernel
theorem d_M_verified_267 : decode b_M_verified 267 = .ok (.iload_n 1, 1) := by decide +kernel
theorem d_M_verified_268 : decode b_M_verified 268 = .ok (.bipush 32, 2) := by decide +kernel
theorem d_M_verified_270 : decode b_M_verified 270 = .ok (.if_icmp .ge 29, 3) := by decide +kernel
theorem d_M_verified_273 : decode b_M_verified 273 = .ok (.aload_n 0, 1) := by decide +kernel
theorem d_M_verified_274 : decode b_M_verified 274 = .ok (.getfield 109, 3) := by decide +kernel
theorem d_M_verified_277 : decode b_M_verified 277 = .ok (.iload_n 1, 1) := by decide +kernel
theorem d_M_verified_278 : decode b_M_verified 278 = .ok (.baload, 1) := by decide +kernel
theorem d_M_verified_279 : decode b_M_verified 279 = .ok (.aload_n 0, 1) := by decide +kernel
theorem d_M_verified_280 : decode b_M_verified 280 = .ok (.getfield 8, 3) := by decide +kernel
theorem d_M_verified_283 : decode b_M_verified 283 = .ok (.bipush 32, 2) := by decide +kernel
theorem d_M_verified_285 : decode b_M_verified 285 = .ok (.iload_n 1, 1) := by decide +kernel
theorem d_M_verified_286 : decode b_M_verified 286 = .ok (.iadd, 1) := by decide +kernel
theorem d_M_verified_287 : decode b_M_verified 287 = .ok (.baload, 1) := by decide +kernel
theorem d_M_verified_288 : decode b_M_verified 288 = .ok (.if_icmp .eq 5, 3) := by decide +kernel
theorem d_M_verified_291 : decode b_M_verified 291 = .ok (.iconst 3, 1) := by decide +kernel
theorem d_M_verified_292 : decode b_M_verified 292 = .ok (.ireturn, 1) := by decide +kernel
theorem d_M_verified_293 : decode b_M_verified 293 = .ok (.iinc 1 1, 3) := by decide +kernel
theorem d_M_verified_296 : decode b_M_verified 296 = .ok (.goto (-29), 3) := by decide +kernel
theorem d_M_verified_299 : decode b_M_verified 299 = .ok (.iconst 0, 1) := by decide +kernel
theorem d_M_verified_300 : decode b_M_verified 300 = .ok (.ireturn, 1) := by decide +kernel
