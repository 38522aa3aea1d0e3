theorem d_L_law_265 : decode b_L_law 265 = .ok (.iconst 1, 1) := by decide +kernel
theorem d_L_law_266 : decode b_L_law 266 = .ok (.iadd, 1) := by decide +kernel
theorem d_L_law_267 : decode b_L_law 267 = .ok (.iaload, 1) := by decide +kernel
theorem d_L_law_268 : decode b_L_law 268 = .ok (.aload_n 3, 1) := by decide +kernel
theorem d_L_law_269 : decode b_L_law 269 = .ok (.invokestatic 77, 3) := by decide +kernel
theorem d_L_law_272 : decode b_L_law 272 = .ok (.istore 5, 2) := by decide +kernel
theorem d_L_law_274 : decode b_L_law 274 = .ok (.aload_n 2, 1) := by decide +kernel
theorem d_L_law_275 : decode b_L_law 275 = .ok (.aload_n 0, 1) := by decide +kernel
theorem d_L_law_276 : decode b_L_law 276 = .ok (.iload 4, 2) := by decide +kernel
theorem d_L_law_278 : decode b_L_law 278 = .ok (.iconst 1, 1) := by decide +kernel
theorem d_L_law_279 : decode b_L_law 279 = .ok (.iadd, 1) := by decide +kernel
theorem d_L_law_280 : decode b_L_law 280 = .ok (.iaload, 1) := by decide +kernel
theorem d_L_law_281 : decode b_L_law 281 = .ok (.invokevirtual 79, 3) := by decide +kernel
theorem d_L_law_284 : decode b_L_law 284 = .ok (.istore 6, 2) := by decide +kernel
theorem d_L_law_286 : decode b_L_law 286 = .ok (.goto 194, 3) := by decide +kernel
theorem d_L_law_289 : decode b_L_law 289 = .ok (.aload_n 1, 1) := by decide +kernel
theorem d_L_law_290 : decode b_L_law 290 = .ok (.invokevirtual 80, 3) := by decide +kernel
theorem d_L_law_293 : decode b_L_law 293 = .ok (.pop, 1) := by decide +kernel
theorem d_L_law_294 : decode b_L_law 294 = .ok (.aload_n 2, 1) := by decide +kernel
theorem d_L_law_295 : decode b_L_law 295 = .ok (.invokevirtual 83, 3) := by decide +kernel
theorem d_L_law_298 : decode b_L_law 298 = .ok (.pop, 1) := by decide +kernel
theorem d_L_law_299 : decode b_L_law 299 = .ok (.goto 181, 3) := by decide +kernel
theorem d_L_law_302 : decode b_L_law 302 = .ok (.aload_n 1, 1) := by decide +kernel
theorem d_L_law_303 : decode b_L_law 303 = .ok (.aload_n 0, 1) := by decide +kernel
theorem d_L_law_304 : decode b_L_law 304 = .ok (.iload 4, 2) := by decide +kernel
theorem d_L_law_306 : decode b_L_law 306 = .ok (.iconst 1, 1) := by decide +kernel
theorem d_L_law_307 : decode b_L_law 307 = .ok (.iadd, 1) := by decide +kernel
theorem d_L_law_308 : decode b_L_law 308 = .ok (.iaload, 1) := by decide +kernel
theorem d_L_law_309 : decode b_L_law 309 = .ok (.invokestatic 84, 3) := by decide +kernel
theorem d_L_law_312 : decode b_L_law 312 = .ok (.istore 5, 2) := by decide +kernel
theorem d_L_law_314 : decode b_L_law 314 = .ok (.aload_n 2, 1) := by decide +kernel
theorem d_L_law_315 : decode b_L_law 315 = .ok (.aload_n 0, 1) := by decide +kernel
theorem d_L_law_316 : decode b_L_law 316 = .ok (.iload 4, 2) := by decide +kernel
theorem d_L_law_318 : decode b_L_law 318 = .ok (.iconst 1, 1) := by decide +kernel
theorem d_L_law_319 : decode b_L_law 319 = .ok (.iadd, 1) := by decide +kernel
theorem d_L_law_320 : decode b_L_law 320 = .ok (.iaload, 1) := by decide +kernel
theorem d_L_law_321 : decode b_L_law 321 = .ok (.invokevirtual 87, 3) := by decide +kernel
theorem d_L_law_324 : decode b_L_law 324 = .ok (.goto 156, 3) := by decide +kernel
theorem d_L_law_327 : decode b_L_law 327 = .ok (.aload_n 1, 1) := by decide +kernel
theorem d_L_law_328 : decode b_L_law 328 = .ok (.aload_n 3, 1) := by decide +kernel
theorem d_L_law_329 : decode b_L_law 329 = .ok (.invokestatic 88, 3) := by decide +kernel
theorem d_L_law_332 : decode b_L_law 332 = .ok (.istore 5, 2) := by decide +kernel
theorem d_L_law_334 : decode b_L_law 334 = .ok (.aload_n 2, 1) := by decide +kernel
theorem d_L_law_335 : decode b_L_law 335 = .ok (.invokevirtual 90, 3) := by decide +kernel
theorem d_L_law_338 : decode b_L_law 338 = .ok (.istore 6, 2) := by decide +kernel
theorem d_L_law_340 : decode b_L_law 340 = .ok (.goto 140, 3) := by decide +kernel
theorem d_L_law_343 : decode b_L_law 343 = .ok (.aload_n 1, 1) := by decide +kernel
theorem d_L_law_344 : decode b_L_law 344 = .ok (.aload_n 3, 1) := by decide +kernel
theorem d_L_law_345 : decode b_L_law 345 = .ok (.invokestatic 91, 3) := by decide +kernel
theorem d_L_law_348 : decode b_L_law 348 = .ok (.istore 5, 2) := by decide +kernel
theorem d_L_law_350 : decode b_L_law 350 = .ok (.aload_n 2, 1) := by decide +kernel
theorem d_L_law_351 : decode b_L_law 351 = .ok (.invokevirtual 93, 3) := by decide +kernel
theorem d_L_law_354 : decode b_L_law 354 = .ok (.istore 6, 2) := by decide +kernel
theorem d_L_law_356 : decode b_L_law 356 = .ok (.goto 124, 3) := by decide +kernel
theorem d_L_law_359 : decode b_L_law 359 = .ok (.aload_n 1, 1) := by decide +kernel
theorem d_L_law_360 : decode b_L_law 360 = .ok (.aload_n 0, 1) := by decide +kernel
theorem d_L_law_361 : decode b_L_law 361 = .ok (.iload 4, 2) := by decide +kernel
theorem d_L_law_363 : decode b_L_law 363 = .ok (.iconst 1, 1) := by decide +kernel
theorem d_L_law_364 : decode b_L_law 364 = .ok (.iadd, 1) := by decide +kernel
theorem d_L_law_365 : decode b_L_law 365 = .ok (.iaload, 1) := by decide +kernel
theorem d_L_law_366 : decode b_L_law 366 = .ok (.aload_n 0, 1) := by decide +kernel
theorem d_L_law_367 : decode b_L_law 367 = .ok (.iload 4, 2) := by decide +kernel
theorem d_L_law_369 : decode b_L_law 369 = .ok (.iconst 2, 1) := by decide +kernel
theorem d_L_law_370 : decode b_L_law 370 = .ok (.iadd, 1) := by decide +kernel
theorem d_L_law_371 : decode b_L_law 371 = .ok (.iaload, 1) := by decide +kernel
theorem d_L_law_372 : decode b_L_law 372 = .ok (.aload_n 3, 1) := by decide +kernel
theorem d_L_law_373 : decode b_L_law 373 = .ok (.invokestatic 94, 3) := by decide +kernel
theorem d_L_law_376 : decode b_L_law 376 = .ok (.istore 5, 2) := by decide +kernel
theorem d_L_law_378 : decode b_L_law 378 = .ok (.aload_n 2, 1) := by decide +kernel
