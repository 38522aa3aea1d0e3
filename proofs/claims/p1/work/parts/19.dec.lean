theorem d_M_init_0 : decode b_M_init 0 = .ok (.aload_n 0, 1) := by decide +kernel
theorem d_M_init_1 : decode b_M_init 1 = .ok (.invokespecial 1, 3) := by decide +kernel
theorem d_M_init_4 : decode b_M_init 4 = .ok (.aload_n 0, 1) := by decide +kernel
theorem d_M_init_5 : decode b_M_init 5 = .ok (.ldc 7, 2) := by decide +kernel
theorem d_M_init_7 : decode b_M_init 7 = .ok (.newarray .byte, 2) := by decide +kernel
theorem d_M_init_9 : decode b_M_init 9 = .ok (.putfield 8, 3) := by decide +kernel
theorem d_M_init_12 : decode b_M_init 12 = .ok (.aload_n 0, 1) := by decide +kernel
theorem d_M_init_13 : decode b_M_init 13 = .ok (.ldc 7, 2) := by decide +kernel
theorem d_M_init_15 : decode b_M_init 15 = .ok (.newarray .byte, 2) := by decide +kernel
theorem d_M_init_17 : decode b_M_init 17 = .ok (.putfield 14, 3) := by decide +kernel
theorem d_M_init_20 : decode b_M_init 20 = .ok (.aload_n 0, 1) := by decide +kernel
theorem d_M_init_21 : decode b_M_init 21 = .ok (.bipush 64, 2) := by decide +kernel
theorem d_M_init_23 : decode b_M_init 23 = .ok (.newarray .byte, 2) := by decide +kernel
theorem d_M_init_25 : decode b_M_init 25 = .ok (.putfield 17, 3) := by decide +kernel
theorem d_M_init_28 : decode b_M_init 28 = .ok (.aload_n 0, 1) := by decide +kernel
theorem d_M_init_29 : decode b_M_init 29 = .ok (.sipush 3200, 3) := by decide +kernel
theorem d_M_init_32 : decode b_M_init 32 = .ok (.newarray .byte, 2) := by decide +kernel
theorem d_M_init_34 : decode b_M_init 34 = .ok (.putfield 20, 3) := by decide +kernel
theorem d_M_init_37 : decode b_M_init 37 = .ok (.aload_n 0, 1) := by decide +kernel
theorem d_M_init_38 : decode b_M_init 38 = .ok (.bipush 6, 2) := by decide +kernel
theorem d_M_init_40 : decode b_M_init 40 = .ok (.newarray .int, 2) := by decide +kernel
theorem d_M_init_42 : decode b_M_init 42 = .ok (.putfield 23, 3) := by decide +kernel
theorem d_M_init_45 : decode b_M_init 45 = .ok (.aload_n 0, 1) := by decide +kernel
theorem d_M_init_46 : decode b_M_init 46 = .ok (.bipush 16, 2) := by decide +kernel
theorem d_M_init_48 : decode b_M_init 48 = .ok (.newarray .long, 2) := by decide +kernel
theorem d_M_init_50 : decode b_M_init 50 = .ok (.putfield 27, 3) := by decide +kernel
theorem d_M_init_53 : decode b_M_init 53 = .ok (.aload_n 0, 1) := by decide +kernel
theorem d_M_init_54 : decode b_M_init 54 = .ok (.sipush 256, 3) := by decide +kernel
theorem d_M_init_57 : decode b_M_init 57 = .ok (.newarray .long, 2) := by decide +kernel
theorem d_M_init_59 : decode b_M_init 59 = .ok (.putfield 31, 3) := by decide +kernel
theorem d_M_init_62 : decode b_M_init 62 = .ok (.aload_n 0, 1) := by decide +kernel
theorem d_M_init_63 : decode b_M_init 63 = .ok (.bipush 16, 2) := by decide +kernel
theorem d_M_init_65 : decode b_M_init 65 = .ok (.newarray .long, 2) := by decide +kernel
theorem d_M_init_67 : decode b_M_init 67 = .ok (.putfield 34, 3) := by decide +kernel
theorem d_M_init_70 : decode b_M_init 70 = .ok (.aload_n 0, 1) := by decide +kernel
theorem d_M_init_71 : decode b_M_init 71 = .ok (.sipush 256, 3) := by decide +kernel
theorem d_M_init_74 : decode b_M_init 74 = .ok (.newarray .long, 2) := by decide +kernel
theorem d_M_init_76 : decode b_M_init 76 = .ok (.putfield 37, 3) := by decide +kernel
theorem d_M_init_79 : decode b_M_init 79 = .ok (.aload_n 0, 1) := by decide +kernel
theorem d_M_init_80 : decode b_M_init 80 = .ok (.bipush 16, 2) := by decide +kernel
theorem d_M_init_82 : decode b_M_init 82 = .ok (.newarray .long, 2) := by decide +kernel
theorem d_M_init_84 : decode b_M_init 84 = .ok (.putfield 40, 3) := by decide +kernel
theorem d_M_init_87 : decode b_M_init 87 = .ok (.aload_n 0, 1) := by decide +kernel
theorem d_M_init_88 : decode b_M_init 88 = .ok (.bipush 16, 2) := by decide +kernel
theorem d_M_init_90 : decode b_M_init 90 = .ok (.newarray .long, 2) := by decide +kernel
theorem d_M_init_92 : decode b_M_init 92 = .ok (.putfield 43, 3) := by decide +kernel
theorem d_M_init_95 : decode b_M_init 95 = .ok (.aload_n 0, 1) := by decide +kernel
theorem d_M_init_96 : decode b_M_init 96 = .ok (.bipush 16, 2) := by decide +kernel
theorem d_M_init_98 : decode b_M_init 98 = .ok (.newarray .long, 2) := by decide +kernel
theorem d_M_init_100 : decode b_M_init 100 = .ok (.putfield 46, 3) := by decide +kernel
theorem d_M_init_103 : decode b_M_init 103 = .ok (.aload_n 0, 1) := by decide +kernel
theorem d_M_init_104 : decode b_M_init 104 = .ok (.bipush 16, 2) := by decide +kernel
theorem d_M_init_106 : decode b_M_init 106 = .ok (.newarray .long, 2) := by decide +kernel
theorem d_M_init_108 : decode b_M_init 108 = .ok (.putfield 49, 3) := by decide +kernel
theorem d_M_init_111 : decode b_M_init 111 = .ok (.aload_n 0, 1) := by decide +kernel
theorem d_M_init_112 : decode b_M_init 112 = .ok (.bipush 16, 2) := by decide +kernel
theorem d_M_init_114 : decode b_M_init 114 = .ok (.newarray .long, 2) := by decide +kernel
theorem d_M_init_116 : decode b_M_init 116 = .ok (.putfield 52, 3) := by decide +kernel
theorem d_M_init_119 : decode b_M_init 119 = .ok (.aload_n 0, 1) := by decide +kernel
theorem d_M_init_120 : decode b_M_init 120 = .ok (.bipush 16, 2) := by decide +kernel
theorem d_M_init_122 : decode b_M_init 122 = .ok (.newarray .long, 2) := by decide +kernel
theorem d_M_init_124 : decode b_M_init 124 = .ok (.putfield 55, 3) := by decide +kernel
theorem d_M_init_127 : decode b_M_init 127 = .ok (.aload_n 0, 1) := by decide +kernel
theorem d_M_init_128 : decode b_M_init 128 = .ok (.bipush 16, 2) := by decide +kernel
theorem d_M_init_130 : decode b_M_init 130 = .ok (.newarray .long, 2) := by decide +kernel
theorem d_M_init_132 : decode b_M_init 132 = .ok (.putfield 58, 3) := by decide +kernel
theorem d_M_init_135 : decode b_M_init 135 = .ok (.aload_n 0, 1) := by decide +kernel
theorem d_M_init_136 : decode b_M_init 136 = .ok (.bipush 16, 2) := by decide +kernel
theorem d_M_init_138 : decode b_M_init 138 = .ok (.newarray .long, 2) := by decide +kernel
theorem d_M_init_140 : decode b_M_init 140 = .ok (.putfield 61, 3) := by decide +kernel
theorem d_M_init_143 : decode b_M_init 143 = .ok (.aload_n 0, 1) := by decide +kernel
theorem d_M_init_144 : decode b_M_init 144 = .ok (.bipush 16, 2) := by decide +kernel
theorem d_M_init_146 : decode b_M_init 146 = .ok (.newarray .long, 2) := by decide +kernel
theorem d_M_init_148 : decode b_M_init 148 = .ok (.putfield 64, 3) := by decide +kernel
theorem d_M_init_151 : decode b_M_init 151 = .ok (.aload_n 0, 1) := by decide +kernel
theorem d_M_init_152 : decode b_M_init 152 = .ok (.bipush 16, 2) := by decide +kernel
theorem d_M_init_154 : decode b_M_init 154 = .ok (.newarray .long, 2) := by decide +kernel
theorem d_M_init_156 : decode b_M_init 156 = .ok (.putfield 67, 3) := by decide +kernel
theorem d_M_init_159 : decode b_M_init 159 = .ok (.aload_n 0, 1) := by decide +kernel
theorem d_M_init_160 : decode b_M_init 160 = .ok (.bipush 16, 2) := by decide +kernel
theorem d_M_init_162 : decode b_M_init 162 = .ok (.newarray .long, 2) := by decide +kernel
theorem d_M_init_164 : decode b_M_init 164 = .ok (.putfield 70, 3) := by decide +kernel
theorem d_M_init_167 : decode b_M_init 167 = .ok (.aload_n 0, 1) := by decide +kernel
theorem d_M_init_168 : decode b_M_init 168 = .ok (.bipush 16, 2) := by decide +kernel
theorem d_M_init_170 : decode b_M_init 170 = .ok (.newarray .long, 2) := by decide +kernel
theorem d_M_init_172 : decode b_M_init 172 = .ok (.putfield 73, 3) := by decide +kernel
theorem d_M_init_175 : decode b_M_init 175 = .ok (.aload_n 0, 1) := by decide +kernel
theorem d_M_init_176 : decode b_M_init 176 = .ok (.bipush 16, 2) := by decide +kernel
theorem d_M_init_178 : decode b_M_init 178 = .ok (.newarray .long, 2) := by decide +kernel
theorem d_M_init_180 : decode b_M_init 180 = .ok (.putfield 76, 3) := by decide +kernel
theorem d_M_init_183 : decode b_M_init 183 = .ok (.aload_n 0, 1) := by decide +kernel
theorem d_M_init_184 : decode b_M_init 184 = .ok (.bipush 16, 2) := by decide +kernel
theorem d_M_init_186 : decode b_M_init 186 = .ok (.newarray .long, 2) := by decide +kernel
theorem d_M_init_188 : decode b_M_init 188 = .ok (.putfield 79, 3) := by decide +kernel
theorem d_M_init_191 : decode b_M_init 191 = .ok (.aload_n 0, 1) := by decide +kernel
theorem d_M_init_192 : decode b_M_init 192 = .ok (.bipush 16, 2) := by decide +kernel
theorem d_M_init_194 : decode b_M_init 194 = .ok (.newarray .long, 2) := by decide +kernel
theorem d_M_init_196 : decode b_M_init 196 = .ok (.putfield 82, 3) := by decide +kernel
theorem d_M_init_199 : decode b_M_init 199 = .ok (.aload_n 0, 1) := by decide +kernel
theorem d_M_init_200 : decode b_M_init 200 = .ok (.bipush 16, 2) := by decide +kernel
theorem d_M_init_202 : decode b_M_init 202 = .ok (.newarray .long, 2) := by decide +kernel
theorem d_M_init_204 : decode b_M_init 204 = .ok (.putfield 85, 3) := by decide +kernel
theorem d_M_init_207 : decode b_M_init 207 = .ok (.aload_n 0, 1) := by decide +kernel
theorem d_M_init_208 : decode b_M_init 208 = .ok (.bipush 16, 2) := by decide +kernel
theorem d_M_init_210 : decode b_M_init 210 = .ok (.newarray .long, 2) := by decide +kernel
theorem d_M_init_212 : decode b_M_init 212 = .ok (.putfield 88, 3) := by decide +kernel
theorem d_M_init_215 : decode b_M_init 215 = .ok (.aload_n 0, 1) := by decide +kernel
theorem d_M_init_216 : decode b_M_init 216 = .ok (.bipush 16, 2) := by decide +kernel
theorem d_M_init_218 : decode b_M_init 218 = .ok (.newarray .long, 2) := by decide +kernel
theorem d_M_init_220 : decode b_M_init 220 = .ok (.putfield 91, 3) := by decide +kernel
theorem d_M_init_223 : decode b_M_init 223 = .ok (.aload_n 0, 1) := by decide +kernel
theorem d_M_init_224 : decode b_M_init 224 = .ok (.bipush 16, 2) := by decide +kernel
theorem d_M_init_226 : decode b_M_init 226 = .ok (.newarray .long, 2) := by decide +kernel
theorem d_M_init_228 : decode b_M_init 228 = .ok (.putfield 94, 3) := by decide +kernel
theorem d_M_init_231 : decode b_M_init 231 = .ok (.aload_n 0, 1) := by decide +kernel
theorem d_M_init_232 : decode b_M_init 232 = .ok (.bipush 16, 2) := by decide +kernel
theorem d_M_init_234 : decode b_M_init 234 = .ok (.newarray .long, 2) := by decide +kernel
theorem d_M_init_236 : decode b_M_init 236 = .ok (.putfield 97, 3) := by decide +kernel
theorem d_M_init_239 : decode b_M_init 239 = .ok (.aload_n 0, 1) := by decide +kernel
theorem d_M_init_240 : decode b_M_init 240 = .ok (.bipush 16, 2) := by decide +kernel
theorem d_M_init_242 : decode b_M_init 242 = .ok (.newarray .long, 2) := by decide +kernel
theorem d_M_init_244 : decode b_M_init 244 = .ok (.putfield 100, 3) := by decide +kernel
theorem d_M_init_247 : decode b_M_init 247 = .ok (.aload_n 0, 1) := by decide +kernel
theorem d_M_init_248 : decode b_M_init 248 = .ok (.bipush 32, 2) := by decide +kernel
theorem d_M_init_250 : decode b_M_init 250 = .ok (.newarray .byte, 2) := by decide +kernel
theorem d_M_init_252 : decode b_M_init 252 = .ok (.putfield 103, 3) := by decide +kernel
theorem d_M_init_255 : decode b_M_init 255 = .ok (.aload_n 0, 1) := by decide +kernel
theorem d_M_init_256 : decode b_M_init 256 = .ok (.bipush 32, 2) := by decide +kernel
theorem d_M_init_258 : decode b_M_init 258 = .ok (.newarray .byte, 2) := by decide +kernel
theorem d_M_init_260 : decode b_M_init 260 = .ok (.putfield 106, 3) := by decide +kernel
theorem d_M_init_263 : decode b_M_init 263 = .ok (.aload_n 0, 1) := by decide +kernel
theorem d_M_init_264 : decode b_M_init 264 = .ok (.bipush 32, 2) := by decide +kernel
theorem d_M_init_266 : decode b_M_init 266 = .ok (.newarray .byte, 2) := by decide +kernel
theorem d_M_init_268 : decode b_M_init 268 = .ok (.putfield 109, 3) := by decide +kernel
theorem d_M_init_271 : decode b_M_init 271 = .ok (.aload_n 0, 1) := by decide +kernel
theorem d_M_init_272 : decode b_M_init 272 = .ok (.ldc 112, 2) := by decide +kernel
theorem d_M_init_274 : decode b_M_init 274 = .ok (.newarray .byte, 2) := by decide +kernel
theorem d_M_init_276 : decode b_M_init 276 = .ok (.putfield 113, 3) := by decide +kernel
theorem d_M_init_279 : decode b_M_init 279 = .ok (.aload_n 0, 1) := by decide +kernel
theorem d_M_init_280 : decode b_M_init 280 = .ok (.bipush 8, 2) := by decide +kernel
theorem d_M_init_282 : decode b_M_init 282 = .ok (.newarray .int, 2) := by decide +kernel
theorem d_M_init_284 : decode b_M_init 284 = .ok (.dup, 1) := by decide +kernel
theorem d_M_init_285 : decode b_M_init 285 = .ok (.iconst 0, 1) := by decide +kernel
theorem d_M_init_286 : decode b_M_init 286 = .ok (.ldc 116, 2) := by decide +kernel
theorem d_M_init_288 : decode b_M_init 288 = .ok (.iastore, 1) := by decide +kernel
theorem d_M_init_289 : decode b_M_init 289 = .ok (.dup, 1) := by decide +kernel
theorem d_M_init_290 : decode b_M_init 290 = .ok (.iconst 1, 1) := by decide +kernel
theorem d_M_init_291 : decode b_M_init 291 = .ok (.sipush 23797, 3) := by decide +kernel
theorem d_M_init_294 : decode b_M_init 294 = .ok (.iastore, 1) := by decide +kernel
theorem d_M_init_295 : decode b_M_init 295 = .ok (.dup, 1) := by decide +kernel
theorem d_M_init_296 : decode b_M_init 296 = .ok (.iconst 2, 1) := by decide +kernel
theorem d_M_init_297 : decode b_M_init 297 = .ok (.sipush 25370, 3) := by decide +kernel
theorem d_M_init_300 : decode b_M_init 300 = .ok (.iastore, 1) := by decide +kernel
theorem d_M_init_301 : decode b_M_init 301 = .ok (.dup, 1) := by decide +kernel
theorem d_M_init_302 : decode b_M_init 302 = .ok (.iconst 3, 1) := by decide +kernel
theorem d_M_init_303 : decode b_M_init 303 = .ok (.sipush 22546, 3) := by decide +kernel
theorem d_M_init_306 : decode b_M_init 306 = .ok (.iastore, 1) := by decide +kernel
theorem d_M_init_307 : decode b_M_init 307 = .ok (.dup, 1) := by decide +kernel
theorem d_M_init_308 : decode b_M_init 308 = .ok (.iconst 4, 1) := by decide +kernel
theorem d_M_init_309 : decode b_M_init 309 = .ok (.ldc 117, 2) := by decide +kernel
theorem d_M_init_311 : decode b_M_init 311 = .ok (.iastore, 1) := by decide +kernel
theorem d_M_init_312 : decode b_M_init 312 = .ok (.dup, 1) := by decide +kernel
theorem d_M_init_313 : decode b_M_init 313 = .ok (.iconst 5, 1) := by decide +kernel
theorem d_M_init_314 : decode b_M_init 314 = .ok (.ldc 118, 2) := by decide +kernel
theorem d_M_init_316 : decode b_M_init 316 = .ok (.iastore, 1) := by decide +kernel
theorem d_M_init_317 : decode b_M_init 317 = .ok (.dup, 1) := by decide +kernel
theorem d_M_init_318 : decode b_M_init 318 = .ok (.bipush 6, 2) := by decide +kernel
theorem d_M_init_320 : decode b_M_init 320 = .ok (.ldc 119, 2) := by decide +kernel
theorem d_M_init_322 : decode b_M_init 322 = .ok (.iastore, 1) := by decide +kernel
theorem d_M_init_323 : decode b_M_init 323 = .ok (.dup, 1) := by decide +kernel
theorem d_M_init_324 : decode b_M_init 324 = .ok (.bipush 7, 2) := by decide +kernel
theorem d_M_init_326 : decode b_M_init 326 = .ok (.sipush 5342, 3) := by decide +kernel
theorem d_M_init_329 : decode b_M_init 329 = .ok (.iastore, 1) := by decide +kernel
theorem d_M_init_330 : decode b_M_init 330 = .ok (.putfield 120, 3) := by decide +kernel
theorem d_M_init_333 : decode b_M_init 333 = .ok (.aload_n 0, 1) := by decide +kernel
theorem d_M_init_334 : decode b_M_init 334 = .ok (.bipush 32, 2) := by decide +kernel
theorem d_M_init_336 : decode b_M_init 336 = .ok (.newarray .long, 2) := by decide +kernel
theorem d_M_init_338 : decode b_M_init 338 = .ok (.putfield 123, 3) := by decide +kernel
theorem d_M_init_341 : decode b_M_init 341 = .ok (.aload_n 0, 1) := by decide +kernel
theorem d_M_init_342 : decode b_M_init 342 = .ok (.bipush 18, 2) := by decide +kernel
theorem d_M_init_344 : decode b_M_init 344 = .ok (.newarray .long, 2) := by decide +kernel
theorem d_M_init_346 : decode b_M_init 346 = .ok (.putfield 126, 3) := by decide +kernel
theorem d_M_init_349 : decode b_M_init 349 = .ok (.aload_n 0, 1) := by decide +kernel
theorem d_M_init_350 : decode b_M_init 350 = .ok (.bipush 16, 2) := by decide +kernel
theorem d_M_init_352 : decode b_M_init 352 = .ok (.newarray .long, 2) := by decide +kernel
theorem d_M_init_354 : decode b_M_init 354 = .ok (.putfield 129, 3) := by decide +kernel
theorem d_M_init_357 : decode b_M_init 357 = .ok (.aload_n 0, 1) := by decide +kernel
theorem d_M_init_358 : decode b_M_init 358 = .ok (.bipush 16, 2) := by decide +kernel
theorem d_M_init_360 : decode b_M_init 360 = .ok (.newarray .long, 2) := by decide +kernel
theorem d_M_init_362 : decode b_M_init 362 = .ok (.putfield 132, 3) := by decide +kernel
theorem d_M_init_365 : decode b_M_init 365 = .ok (.aload_n 0, 1) := by decide +kernel
theorem d_M_init_366 : decode b_M_init 366 = .ok (.bipush 17, 2) := by decide +kernel
theorem d_M_init_368 : decode b_M_init 368 = .ok (.newarray .long, 2) := by decide +kernel
theorem d_M_init_370 : decode b_M_init 370 = .ok (.putfield 135, 3) := by decide +kernel
theorem d_M_init_373 : decode b_M_init 373 = .ok (.aload_n 0, 1) := by decide +kernel
theorem d_M_init_374 : decode b_M_init 374 = .ok (.bipush 17, 2) := by decide +kernel
theorem d_M_init_376 : decode b_M_init 376 = .ok (.newarray .long, 2) := by decide +kernel
theorem d_M_init_378 : decode b_M_init 378 = .ok (.putfield 138, 3) := by decide +kernel
theorem d_M_init_381 : decode b_M_init 381 = .ok (.aload_n 0, 1) := by decide +kernel
theorem d_M_init_382 : decode b_M_init 382 = .ok (.bipush 80, 2) := by decide +kernel
theorem d_M_init_384 : decode b_M_init 384 = .ok (.newarray .long, 2) := by decide +kernel
theorem d_M_init_386 : decode b_M_init 386 = .ok (.putfield 141, 3) := by decide +kernel
theorem d_M_init_389 : decode b_M_init 389 = .ok (.aload_n 0, 1) := by decide +kernel
theorem d_M_init_390 : decode b_M_init 390 = .ok (.bipush 8, 2) := by decide +kernel
theorem d_M_init_392 : decode b_M_init 392 = .ok (.newarray .long, 2) := by decide +kernel
theorem d_M_init_394 : decode b_M_init 394 = .ok (.putfield 144, 3) := by decide +kernel
theorem d_M_init_397 : decode b_M_init 397 = .ok (.aload_n 0, 1) := by decide +kernel
theorem d_M_init_398 : decode b_M_init 398 = .ok (.bipush 80, 2) := by decide +kernel
theorem d_M_init_400 : decode b_M_init 400 = .ok (.newarray .long, 2) := by decide +kernel
theorem d_M_init_402 : decode b_M_init 402 = .ok (.putfield 147, 3) := by decide +kernel
theorem d_M_init_405 : decode b_M_init 405 = .ok (.aload_n 0, 1) := by decide +kernel
theorem d_M_init_406 : decode b_M_init 406 = .ok (.bipush 8, 2) := by decide +kernel
theorem d_M_init_408 : decode b_M_init 408 = .ok (.newarray .long, 2) := by decide +kernel
theorem d_M_init_410 : decode b_M_init 410 = .ok (.putfield 150, 3) := by decide +kernel
theorem d_M_init_413 : decode b_M_init 413 = .ok (.aload_n 0, 1) := by decide +kernel
theorem d_M_init_414 : decode b_M_init 414 = .ok (.bipush 8, 2) := by decide +kernel
theorem d_M_init_416 : decode b_M_init 416 = .ok (.newarray .long, 2) := by decide +kernel
theorem d_M_init_418 : decode b_M_init 418 = .ok (.putfield 153, 3) := by decide +kernel
theorem d_M_init_421 : decode b_M_init 421 = .ok (.aload_n 0, 1) := by decide +kernel
theorem d_M_init_422 : decode b_M_init 422 = .ok (.bipush 8, 2) := by decide +kernel
theorem d_M_init_424 : decode b_M_init 424 = .ok (.newarray .long, 2) := by decide +kernel
theorem d_M_init_426 : decode b_M_init 426 = .ok (.putfield 156, 3) := by decide +kernel
theorem d_M_init_429 : decode b_M_init 429 = .ok (.aload_n 0, 1) := by decide +kernel
theorem d_M_init_430 : decode b_M_init 430 = .ok (.bipush 64, 2) := by decide +kernel
theorem d_M_init_432 : decode b_M_init 432 = .ok (.newarray .byte, 2) := by decide +kernel
theorem d_M_init_434 : decode b_M_init 434 = .ok (.putfield 159, 3) := by decide +kernel
theorem d_M_init_437 : decode b_M_init 437 = .ok (.aload_n 0, 1) := by decide +kernel
theorem d_M_init_438 : decode b_M_init 438 = .ok (.invokevirtual 162, 3) := by decide +kernel
theorem d_M_init_441 : decode b_M_init 441 = .ok (.iconst 0, 1) := by decide +kernel
theorem d_M_init_442 : decode b_M_init 442 = .ok (.istore_n 1, 1) := by decide +kernel
theorem d_M_init_443 : decode b_M_init 443 = .ok (.iload_n 1, 1) := by decide +kernel
theorem d_M_init_444 : decode b_M_init 444 = .ok (.bipush 16, 2) := by decide +kernel
theorem d_M_init_446 : decode b_M_init 446 = .ok (.if_icmp .ge 40, 3) := by decide +kernel
theorem d_M_init_449 : decode b_M_init 449 = .ok (.aload_n 0, 1) := by decide +kernel
theorem d_M_init_450 : decode b_M_init 450 = .ok (.getfield 27, 3) := by decide +kernel
theorem d_M_init_453 : decode b_M_init 453 = .ok (.iload_n 1, 1) := by decide +kernel
theorem d_M_init_454 : decode b_M_init 454 = .ok (.iload_n 1, 1) := by decide +kernel
theorem d_M_init_455 : decode b_M_init 455 = .ok (.ifCond .ne 9, 3) := by decide +kernel
theorem d_M_init_458 : decode b_M_init 458 = .ok (.ldc2_w 165, 3) := by decide +kernel
theorem d_M_init_461 : decode b_M_init 461 = .ok (.goto 18, 3) := by decide +kernel
theorem d_M_init_464 : decode b_M_init 464 = .ok (.iload_n 1, 1) := by decide +kernel
theorem d_M_init_465 : decode b_M_init 465 = .ok (.bipush 15, 2) := by decide +kernel
theorem d_M_init_467 : decode b_M_init 467 = .ok (.if_icmp .ne 9, 3) := by decide +kernel
theorem d_M_init_470 : decode b_M_init 470 = .ok (.ldc2_w 167, 3) := by decide +kernel
theorem d_M_init_473 : decode b_M_init 473 = .ok (.goto 6, 3) := by decide +kernel
theorem d_M_init_476 : decode b_M_init 476 = .ok (.ldc2_w 169, 3) := by decide +kernel
theorem d_M_init_479 : decode b_M_init 479 = .ok (.lastore, 1) := by decide +kernel
theorem d_M_init_480 : decode b_M_init 480 = .ok (.iinc 1 1, 3) := by decide +kernel
theorem d_M_init_483 : decode b_M_init 483 = .ok (.goto (-40), 3) := by decide +kernel
theorem d_M_init_486 : decode b_M_init 486 = .ok (.aload_n 0, 1) := by decide +kernel
theorem d_M_init_487 : decode b_M_init 487 = .ok (.getfield 31, 3) := by decide +kernel
theorem d_M_init_490 : decode b_M_init 490 = .ok (.aload_n 0, 1) := by decide +kernel
theorem d_M_init_491 : decode b_M_init 491 = .ok (.getfield 27, 3) := by decide +kernel
theorem d_M_init_494 : decode b_M_init 494 = .ok (.aload_n 0, 1) := by decide +kernel
theorem d_M_init_495 : decode b_M_init 495 = .ok (.getfield 70, 3) := by decide +kernel
theorem d_M_init_498 : decode b_M_init 498 = .ok (.invokestatic 171, 3) := by decide +kernel
theorem d_M_init_501 : decode b_M_init 501 = .ok (.iconst 0, 1) := by decide +kernel
theorem d_M_init_502 : decode b_M_init 502 = .ok (.istore_n 1, 1) := by decide +kernel
theorem d_M_init_503 : decode b_M_init 503 = .ok (.iload_n 1, 1) := by decide +kernel
theorem d_M_init_504 : decode b_M_init 504 = .ok (.bipush 16, 2) := by decide +kernel
theorem d_M_init_506 : decode b_M_init 506 = .ok (.if_icmp .ge 44, 3) := by decide +kernel
theorem d_M_init_509 : decode b_M_init 509 = .ok (.aload_n 0, 1) := by decide +kernel
theorem d_M_init_510 : decode b_M_init 510 = .ok (.getfield 34, 3) := by decide +kernel
theorem d_M_init_513 : decode b_M_init 513 = .ok (.iload_n 1, 1) := by decide +kernel
theorem d_M_init_514 : decode b_M_init 514 = .ok (.iload_n 1, 1) := by decide +kernel
theorem d_M_init_515 : decode b_M_init 515 = .ok (.bipush 8, 2) := by decide +kernel
theorem d_M_init_517 : decode b_M_init 517 = .ok (.if_icmp .ge 13, 3) := by decide +kernel
theorem d_M_init_520 : decode b_M_init 520 = .ok (.aload_n 0, 1) := by decide +kernel
theorem d_M_init_521 : decode b_M_init 521 = .ok (.getfield 120, 3) := by decide +kernel
theorem d_M_init_524 : decode b_M_init 524 = .ok (.iload_n 1, 1) := by decide +kernel
theorem d_M_init_525 : decode b_M_init 525 = .ok (.iaload, 1) := by decide +kernel
theorem d_M_init_526 : decode b_M_init 526 = .ok (.i2l, 1) := by decide +kernel
theorem d_M_init_527 : decode b_M_init 527 = .ok (.goto 16, 3) := by decide +kernel
theorem d_M_init_530 : decode b_M_init 530 = .ok (.iload_n 1, 1) := by decide +kernel
theorem d_M_init_531 : decode b_M_init 531 = .ok (.bipush 15, 2) := by decide +kernel
theorem d_M_init_533 : decode b_M_init 533 = .ok (.if_icmp .ne 9, 3) := by decide +kernel
theorem d_M_init_536 : decode b_M_init 536 = .ok (.ldc2_w 175, 3) := by decide +kernel
theorem d_M_init_539 : decode b_M_init 539 = .ok (.goto 4, 3) := by decide +kernel
theorem d_M_init_542 : decode b_M_init 542 = .ok (.lconst 0, 1) := by decide +kernel
theorem d_M_init_543 : decode b_M_init 543 = .ok (.lastore, 1) := by decide +kernel
theorem d_M_init_544 : decode b_M_init 544 = .ok (.iinc 1 1, 3) := by decide +kernel
theorem d_M_init_547 : decode b_M_init 547 = .ok (.goto (-44), 3) := by decide +kernel
theorem d_M_init_550 : decode b_M_init 550 = .ok (.aload_n 0, 1) := by decide +kernel
theorem d_M_init_551 : decode b_M_init 551 = .ok (.getfield 37, 3) := by decide +kernel
theorem d_M_init_554 : decode b_M_init 554 = .ok (.aload_n 0, 1) := by decide +kernel
theorem d_M_init_555 : decode b_M_init 555 = .ok (.getfield 34, 3) := by decide +kernel
theorem d_M_init_558 : decode b_M_init 558 = .ok (.aload_n 0, 1) := by decide +kernel
theorem d_M_init_559 : decode b_M_init 559 = .ok (.getfield 70, 3) := by decide +kernel
theorem d_M_init_562 : decode b_M_init 562 = .ok (.invokestatic 171, 3) := by decide +kernel
theorem d_M_init_565 : decode b_M_init 565 = .ok (.aload_n 0, 1) := by decide +kernel
theorem d_M_init_566 : decode b_M_init 566 = .ok (.getfield 88, 3) := by decide +kernel
theorem d_M_init_569 : decode b_M_init 569 = .ok (.iconst 1, 1) := by decide +kernel
theorem d_M_init_570 : decode b_M_init 570 = .ok (.invokestatic 177, 3) := by decide +kernel
theorem d_M_init_573 : decode b_M_init 573 = .ok (.aload_n 0, 1) := by decide +kernel
theorem d_M_init_574 : decode b_M_init 574 = .ok (.getfield 70, 3) := by decide +kernel
theorem d_M_init_577 : decode b_M_init 577 = .ok (.iconst 0, 1) := by decide +kernel
theorem d_M_init_578 : decode b_M_init 578 = .ok (.invokestatic 177, 3) := by decide +kernel
theorem d_M_init_581 : decode b_M_init 581 = .ok (.aload_n 0, 1) := by decide +kernel
theorem d_M_init_582 : decode b_M_init 582 = .ok (.getfield 73, 3) := by decide +kernel
theorem d_M_init_585 : decode b_M_init 585 = .ok (.iconst 0, 1) := by decide +kernel
theorem d_M_init_586 : decode b_M_init 586 = .ok (.invokestatic 177, 3) := by decide +kernel
theorem d_M_init_589 : decode b_M_init 589 = .ok (.aload_n 0, 1) := by decide +kernel
theorem d_M_init_590 : decode b_M_init 590 = .ok (.getfield 70, 3) := by decide +kernel
theorem d_M_init_593 : decode b_M_init 593 = .ok (.iconst 0, 1) := by decide +kernel
theorem d_M_init_594 : decode b_M_init 594 = .ok (.ldc2_w 181, 3) := by decide +kernel
theorem d_M_init_597 : decode b_M_init 597 = .ok (.lastore, 1) := by decide +kernel
theorem d_M_init_598 : decode b_M_init 598 = .ok (.aload_n 0, 1) := by decide +kernel
theorem d_M_init_599 : decode b_M_init 599 = .ok (.getfield 70, 3) := by decide +kernel
theorem d_M_init_602 : decode b_M_init 602 = .ok (.iconst 1, 1) := by decide +kernel
theorem d_M_init_603 : decode b_M_init 603 = .ok (.lconst 1, 1) := by decide +kernel
theorem d_M_init_604 : decode b_M_init 604 = .ok (.lastore, 1) := by decide +kernel
theorem d_M_init_605 : decode b_M_init 605 = .ok (.aload_n 0, 1) := by decide +kernel
theorem d_M_init_606 : decode b_M_init 606 = .ok (.getfield 73, 3) := by decide +kernel
theorem d_M_init_609 : decode b_M_init 609 = .ok (.iconst 0, 1) := by decide +kernel
theorem d_M_init_610 : decode b_M_init 610 = .ok (.ldc2_w 183, 3) := by decide +kernel
theorem d_M_init_613 : decode b_M_init 613 = .ok (.lastore, 1) := by decide +kernel
theorem d_M_init_614 : decode b_M_init 614 = .ok (.aload_n 0, 1) := by decide +kernel
theorem d_M_init_615 : decode b_M_init 615 = .ok (.getfield 73, 3) := by decide +kernel
theorem d_M_init_618 : decode b_M_init 618 = .ok (.iconst 1, 1) := by decide +kernel
theorem d_M_init_619 : decode b_M_init 619 = .ok (.lconst 1, 1) := by decide +kernel
theorem d_M_init_620 : decode b_M_init 620 = .ok (.lastore, 1) := by decide +kernel
theorem d_M_init_621 : decode b_M_init 621 = .ok (.aload_n 0, 1) := by decide +kernel
theorem d_M_init_622 : decode b_M_init 622 = .ok (.aload_n 0, 1) := by decide +kernel
theorem d_M_init_623 : decode b_M_init 623 = .ok (.getfield 76, 3) := by decide +kernel
theorem d_M_init_626 : decode b_M_init 626 = .ok (.aload_n 0, 1) := by decide +kernel
theorem d_M_init_627 : decode b_M_init 627 = .ok (.getfield 73, 3) := by decide +kernel
theorem d_M_init_630 : decode b_M_init 630 = .ok (.aload_n 0, 1) := by decide +kernel
theorem d_M_init_631 : decode b_M_init 631 = .ok (.getfield 27, 3) := by decide +kernel
theorem d_M_init_634 : decode b_M_init 634 = .ok (.invokevirtual 185, 3) := by decide +kernel
theorem d_M_init_637 : decode b_M_init 637 = .ok (.aload_n 0, 1) := by decide +kernel
theorem d_M_init_638 : decode b_M_init 638 = .ok (.aload_n 0, 1) := by decide +kernel
theorem d_M_init_639 : decode b_M_init 639 = .ok (.getfield 40, 3) := by decide +kernel
theorem d_M_init_642 : decode b_M_init 642 = .ok (.aload_n 0, 1) := by decide +kernel
theorem d_M_init_643 : decode b_M_init 643 = .ok (.getfield 70, 3) := by decide +kernel
theorem d_M_init_646 : decode b_M_init 646 = .ok (.aload_n 0, 1) := by decide +kernel
theorem d_M_init_647 : decode b_M_init 647 = .ok (.getfield 76, 3) := by decide +kernel
theorem d_M_init_650 : decode b_M_init 650 = .ok (.aload_n 0, 1) := by decide +kernel
theorem d_M_init_651 : decode b_M_init 651 = .ok (.getfield 27, 3) := by decide +kernel
theorem d_M_init_654 : decode b_M_init 654 = .ok (.aload_n 0, 1) := by decide +kernel
theorem d_M_init_655 : decode b_M_init 655 = .ok (.getfield 31, 3) := by decide +kernel
theorem d_M_init_658 : decode b_M_init 658 = .ok (.invokevirtual 188, 3) := by decide +kernel
theorem d_M_init_661 : decode b_M_init 661 = .ok (.aload_n 0, 1) := by decide +kernel
theorem d_M_init_662 : decode b_M_init 662 = .ok (.getfield 73, 3) := by decide +kernel
theorem d_M_init_665 : decode b_M_init 665 = .ok (.iconst 0, 1) := by decide +kernel
theorem d_M_init_666 : decode b_M_init 666 = .ok (.invokestatic 177, 3) := by decide +kernel
theorem d_M_init_669 : decode b_M_init 669 = .ok (.aload_n 0, 1) := by decide +kernel
theorem d_M_init_670 : decode b_M_init 670 = .ok (.getfield 40, 3) := by decide +kernel
theorem d_M_init_673 : decode b_M_init 673 = .ok (.aload_n 0, 1) := by decide +kernel
theorem d_M_init_674 : decode b_M_init 674 = .ok (.getfield 73, 3) := by decide +kernel
theorem d_M_init_677 : decode b_M_init 677 = .ok (.aload_n 0, 1) := by decide +kernel
theorem d_M_init_678 : decode b_M_init 678 = .ok (.getfield 40, 3) := by decide +kernel
theorem d_M_init_681 : decode b_M_init 681 = .ok (.aload_n 0, 1) := by decide +kernel
theorem d_M_init_682 : decode b_M_init 682 = .ok (.getfield 27, 3) := by decide +kernel
theorem d_M_init_685 : decode b_M_init 685 = .ok (.invokestatic 192, 3) := by decide +kernel
theorem d_M_init_688 : decode b_M_init 688 = .ok (.aload_n 0, 1) := by decide +kernel
theorem d_M_init_689 : decode b_M_init 689 = .ok (.getfield 70, 3) := by decide +kernel
theorem d_M_init_692 : decode b_M_init 692 = .ok (.iconst 2, 1) := by decide +kernel
theorem d_M_init_693 : decode b_M_init 693 = .ok (.invokestatic 177, 3) := by decide +kernel
theorem d_M_init_696 : decode b_M_init 696 = .ok (.iconst 0, 1) := by decide +kernel
theorem d_M_init_697 : decode b_M_init 697 = .ok (.istore_n 1, 1) := by decide +kernel
theorem d_M_init_698 : decode b_M_init 698 = .ok (.iload_n 1, 1) := by decide +kernel
theorem d_M_init_699 : decode b_M_init 699 = .ok (.bipush 16, 2) := by decide +kernel
theorem d_M_init_701 : decode b_M_init 701 = .ok (.if_icmp .ge 40, 3) := by decide +kernel
theorem d_M_init_704 : decode b_M_init 704 = .ok (.aload_n 0, 1) := by decide +kernel
theorem d_M_init_705 : decode b_M_init 705 = .ok (.getfield 79, 3) := by decide +kernel
theorem d_M_init_708 : decode b_M_init 708 = .ok (.iload_n 1, 1) := by decide +kernel
theorem d_M_init_709 : decode b_M_init 709 = .ok (.iload_n 1, 1) := by decide +kernel
theorem d_M_init_710 : decode b_M_init 710 = .ok (.ifCond .ne 9, 3) := by decide +kernel
theorem d_M_init_713 : decode b_M_init 713 = .ok (.ldc2_w 196, 3) := by decide +kernel
theorem d_M_init_716 : decode b_M_init 716 = .ok (.goto 18, 3) := by decide +kernel
theorem d_M_init_719 : decode b_M_init 719 = .ok (.iload_n 1, 1) := by decide +kernel
theorem d_M_init_720 : decode b_M_init 720 = .ok (.bipush 15, 2) := by decide +kernel
theorem d_M_init_722 : decode b_M_init 722 = .ok (.if_icmp .ne 9, 3) := by decide +kernel
theorem d_M_init_725 : decode b_M_init 725 = .ok (.ldc2_w 198, 3) := by decide +kernel
theorem d_M_init_728 : decode b_M_init 728 = .ok (.goto 6, 3) := by decide +kernel
theorem d_M_init_731 : decode b_M_init 731 = .ok (.ldc2_w 169, 3) := by decide +kernel
theorem d_M_init_734 : decode b_M_init 734 = .ok (.lastore, 1) := by decide +kernel
theorem d_M_init_735 : decode b_M_init 735 = .ok (.iinc 1 1, 3) := by decide +kernel
theorem d_M_init_738 : decode b_M_init 738 = .ok (.goto (-40), 3) := by decide +kernel
theorem d_M_init_741 : decode b_M_init 741 = .ok (.aload_n 0, 1) := by decide +kernel
theorem d_M_init_742 : decode b_M_init 742 = .ok (.aload_n 0, 1) := by decide +kernel
theorem d_M_init_743 : decode b_M_init 743 = .ok (.getfield 43, 3) := by decide +kernel
theorem d_M_init_746 : decode b_M_init 746 = .ok (.aload_n 0, 1) := by decide +kernel
theorem d_M_init_747 : decode b_M_init 747 = .ok (.getfield 70, 3) := by decide +kernel
theorem d_M_init_750 : decode b_M_init 750 = .ok (.aload_n 0, 1) := by decide +kernel
theorem d_M_init_751 : decode b_M_init 751 = .ok (.getfield 79, 3) := by decide +kernel
theorem d_M_init_754 : decode b_M_init 754 = .ok (.invokevirtual 200, 3) := by decide +kernel
theorem d_M_init_757 : decode b_M_init 757 = .ok (.aload_n 0, 1) := by decide +kernel
theorem d_M_init_758 : decode b_M_init 758 = .ok (.getfield 70, 3) := by decide +kernel
theorem d_M_init_761 : decode b_M_init 761 = .ok (.iconst 5, 1) := by decide +kernel
theorem d_M_init_762 : decode b_M_init 762 = .ok (.invokestatic 177, 3) := by decide +kernel
theorem d_M_init_765 : decode b_M_init 765 = .ok (.aload_n 0, 1) := by decide +kernel
theorem d_M_init_766 : decode b_M_init 766 = .ok (.aload_n 0, 1) := by decide +kernel
theorem d_M_init_767 : decode b_M_init 767 = .ok (.getfield 76, 3) := by decide +kernel
theorem d_M_init_770 : decode b_M_init 770 = .ok (.aload_n 0, 1) := by decide +kernel
theorem d_M_init_771 : decode b_M_init 771 = .ok (.getfield 70, 3) := by decide +kernel
theorem d_M_init_774 : decode b_M_init 774 = .ok (.aload_n 0, 1) := by decide +kernel
theorem d_M_init_775 : decode b_M_init 775 = .ok (.getfield 27, 3) := by decide +kernel
theorem d_M_init_778 : decode b_M_init 778 = .ok (.invokevirtual 185, 3) := by decide +kernel
theorem d_M_init_781 : decode b_M_init 781 = .ok (.aload_n 0, 1) := by decide +kernel
theorem d_M_init_782 : decode b_M_init 782 = .ok (.getfield 70, 3) := by decide +kernel
theorem d_M_init_785 : decode b_M_init 785 = .ok (.iconst 4, 1) := by decide +kernel
theorem d_M_init_786 : decode b_M_init 786 = .ok (.invokestatic 177, 3) := by decide +kernel
theorem d_M_init_789 : decode b_M_init 789 = .ok (.aload_n 0, 1) := by decide +kernel
theorem d_M_init_790 : decode b_M_init 790 = .ok (.aload_n 0, 1) := by decide +kernel
theorem d_M_init_791 : decode b_M_init 791 = .ok (.getfield 49, 3) := by decide +kernel
theorem d_M_init_794 : decode b_M_init 794 = .ok (.aload_n 0, 1) := by decide +kernel
theorem d_M_init_795 : decode b_M_init 795 = .ok (.getfield 70, 3) := by decide +kernel
theorem d_M_init_798 : decode b_M_init 798 = .ok (.aload_n 0, 1) := by decide +kernel
theorem d_M_init_799 : decode b_M_init 799 = .ok (.getfield 76, 3) := by decide +kernel
theorem d_M_init_802 : decode b_M_init 802 = .ok (.aload_n 0, 1) := by decide +kernel
theorem d_M_init_803 : decode b_M_init 803 = .ok (.getfield 27, 3) := by decide +kernel
theorem d_M_init_806 : decode b_M_init 806 = .ok (.aload_n 0, 1) := by decide +kernel
theorem d_M_init_807 : decode b_M_init 807 = .ok (.getfield 31, 3) := by decide +kernel
theorem d_M_init_810 : decode b_M_init 810 = .ok (.invokevirtual 188, 3) := by decide +kernel
theorem d_M_init_813 : decode b_M_init 813 = .ok (.iconst 0, 1) := by decide +kernel
theorem d_M_init_814 : decode b_M_init 814 = .ok (.istore_n 1, 1) := by decide +kernel
theorem d_M_init_815 : decode b_M_init 815 = .ok (.iload_n 1, 1) := by decide +kernel
theorem d_M_init_816 : decode b_M_init 816 = .ok (.bipush 32, 2) := by decide +kernel
theorem d_M_init_818 : decode b_M_init 818 = .ok (.if_icmp .ge 32, 3) := by decide +kernel
theorem d_M_init_821 : decode b_M_init 821 = .ok (.aload_n 0, 1) := by decide +kernel
theorem d_M_init_822 : decode b_M_init 822 = .ok (.getfield 103, 3) := by decide +kernel
theorem d_M_init_825 : decode b_M_init 825 = .ok (.iload_n 1, 1) := by decide +kernel
theorem d_M_init_826 : decode b_M_init 826 = .ok (.aload_n 0, 1) := by decide +kernel
theorem d_M_init_827 : decode b_M_init 827 = .ok (.getfield 49, 3) := by decide +kernel
theorem d_M_init_830 : decode b_M_init 830 = .ok (.iload_n 1, 1) := by decide +kernel
theorem d_M_init_831 : decode b_M_init 831 = .ok (.iconst 2, 1) := by decide +kernel
theorem d_M_init_832 : decode b_M_init 832 = .ok (.idiv, 1) := by decide +kernel
theorem d_M_init_833 : decode b_M_init 833 = .ok (.laload, 1) := by decide +kernel
theorem d_M_init_834 : decode b_M_init 834 = .ok (.bipush 8, 2) := by decide +kernel
theorem d_M_init_836 : decode b_M_init 836 = .ok (.iload_n 1, 1) := by decide +kernel
theorem d_M_init_837 : decode b_M_init 837 = .ok (.iconst 2, 1) := by decide +kernel
theorem d_M_init_838 : decode b_M_init 838 = .ok (.irem, 1) := by decide +kernel
theorem d_M_init_839 : decode b_M_init 839 = .ok (.imul, 1) := by decide +kernel
theorem d_M_init_840 : decode b_M_init 840 = .ok (.lshr, 1) := by decide +kernel
theorem d_M_init_841 : decode b_M_init 841 = .ok (.l2i, 1) := by decide +kernel
theorem d_M_init_842 : decode b_M_init 842 = .ok (.i2b, 1) := by decide +kernel
theorem d_M_init_843 : decode b_M_init 843 = .ok (.bastore, 1) := by decide +kernel
theorem d_M_init_844 : decode b_M_init 844 = .ok (.iinc 1 1, 3) := by decide +kernel
theorem d_M_init_847 : decode b_M_init 847 = .ok (.goto (-32), 3) := by decide +kernel
theorem d_M_init_850 : decode b_M_init 850 = .ok (.aload_n 0, 1) := by decide +kernel
theorem d_M_init_851 : decode b_M_init 851 = .ok (.invokevirtual 203, 3) := by decide +kernel
theorem d_M_init_854 : decode b_M_init 854 = .ok (.pop, 1) := by decide +kernel
theorem d_M_init_855 : decode b_M_init 855 = .ok (.aload_n 0, 1) := by decide +kernel
theorem d_M_init_856 : decode b_M_init 856 = .ok (.getfield 46, 3) := by decide +kernel
theorem d_M_init_859 : decode b_M_init 859 = .ok (.aload_n 0, 1) := by decide +kernel
theorem d_M_init_860 : decode b_M_init 860 = .ok (.getfield 58, 3) := by decide +kernel
theorem d_M_init_863 : decode b_M_init 863 = .ok (.invokestatic 207, 3) := by decide +kernel
theorem d_M_init_866 : decode b_M_init 866 = .ok (.return_, 1) := by decide +kernel
