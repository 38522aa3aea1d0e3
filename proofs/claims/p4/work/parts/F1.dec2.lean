theorem d_L_law_268 : decode b_L_law 268 = .ok (.istore 5, 2) := by decide +kernel
theorem d_L_law_270 : decode b_L_law 270 = .ok (.aload_n 2, 1) := by decide +kernel
theorem d_L_law_271 : decode b_L_law 271 = .ok (.aload_n 0, 1) := by decide +kernel
theorem d_L_law_272 : decode b_L_law 272 = .ok (.iload 4, 2) := by decide +kernel
theorem d_L_law_274 : decode b_L_law 274 = .ok (.iconst 1, 1) := by decide +kernel
theorem d_L_law_275 : decode b_L_law 275 = .ok (.iadd, 1) := by decide +kernel
theorem d_L_law_276 : decode b_L_law 276 = .ok (.iaload, 1) := by decide +kernel
theorem d_L_law_277 : decode b_L_law 277 = .ok (.aload_n 0, 1) := by decide +kernel
theorem d_L_law_278 : decode b_L_law 278 = .ok (.iload 4, 2) := by decide +kernel
theorem d_L_law_280 : decode b_L_law 280 = .ok (.iconst 2, 1) := by decide +kernel
theorem d_L_law_281 : decode b_L_law 281 = .ok (.iadd, 1) := by decide +kernel
theorem d_L_law_282 : decode b_L_law 282 = .ok (.iaload, 1) := by decide +kernel
theorem d_L_law_283 : decode b_L_law 283 = .ok (.invokevirtual 79, 3) := by decide +kernel
theorem d_L_law_286 : decode b_L_law 286 = .ok (.goto 194, 3) := by decide +kernel
theorem d_L_law_289 : decode b_L_law 289 = .ok (.aload_n 1, 1) := by decide +kernel
theorem d_L_law_290 : decode b_L_law 290 = .ok (.aload_n 0, 1) := by decide +kernel
theorem d_L_law_291 : decode b_L_law 291 = .ok (.iload 4, 2) := by decide +kernel
theorem d_L_law_293 : decode b_L_law 293 = .ok (.iconst 1, 1) := by decide +kernel
theorem d_L_law_294 : decode b_L_law 294 = .ok (.iadd, 1) := by decide +kernel
theorem d_L_law_295 : decode b_L_law 295 = .ok (.iaload, 1) := by decide +kernel
theorem d_L_law_296 : decode b_L_law 296 = .ok (.aload_n 3, 1) := by decide +kernel
theorem d_L_law_297 : decode b_L_law 297 = .ok (.invokestatic 80, 3) := by decide +kernel
theorem d_L_law_300 : decode b_L_law 300 = .ok (.istore 5, 2) := by decide +kernel
theorem d_L_law_302 : decode b_L_law 302 = .ok (.aload_n 2, 1) := by decide +kernel
theorem d_L_law_303 : decode b_L_law 303 = .ok (.aload_n 0, 1) := by decide +kernel
theorem d_L_law_304 : decode b_L_law 304 = .ok (.iload 4, 2) := by decide +kernel
theorem d_L_law_306 : decode b_L_law 306 = .ok (.iconst 1, 1) := by decide +kernel
theorem d_L_law_307 : decode b_L_law 307 = .ok (.iadd, 1) := by decide +kernel
theorem d_L_law_308 : decode b_L_law 308 = .ok (.iaload, 1) := by decide +kernel
theorem d_L_law_309 : decode b_L_law 309 = .ok (.invokevirtual 82, 3) := by decide +kernel
theorem d_L_law_312 : decode b_L_law 312 = .ok (.istore 6, 2) := by decide +kernel
theorem d_L_law_314 : decode b_L_law 314 = .ok (.goto 166, 3) := by decide +kernel
theorem d_L_law_317 : decode b_L_law 317 = .ok (.aload_n 1, 1) := by decide +kernel
theorem d_L_law_318 : decode b_L_law 318 = .ok (.invokevirtual 83, 3) := by decide +kernel
theorem d_L_law_321 : decode b_L_law 321 = .ok (.pop, 1) := by decide +kernel
theorem d_L_law_322 : decode b_L_law 322 = .ok (.aload_n 2, 1) := by decide +kernel
theorem d_L_law_323 : decode b_L_law 323 = .ok (.invokevirtual 86, 3) := by decide +kernel
theorem d_L_law_326 : decode b_L_law 326 = .ok (.pop, 1) := by decide +kernel
theorem d_L_law_327 : decode b_L_law 327 = .ok (.goto 153, 3) := by decide +kernel
theorem d_L_law_330 : decode b_L_law 330 = .ok (.aload_n 1, 1) := by decide +kernel
theorem d_L_law_331 : decode b_L_law 331 = .ok (.aload_n 0, 1) := by decide +kernel
theorem d_L_law_332 : decode b_L_law 332 = .ok (.iload 4, 2) := by decide +kernel
theorem d_L_law_334 : decode b_L_law 334 = .ok (.iconst 1, 1) := by decide +kernel
theorem d_L_law_335 : decode b_L_law 335 = .ok (.iadd, 1) := by decide +kernel
theorem d_L_law_336 : decode b_L_law 336 = .ok (.iaload, 1) := by decide +kernel
theorem d_L_law_337 : decode b_L_law 337 = .ok (.invokestatic 87, 3) := by decide +kernel
theorem d_L_law_340 : decode b_L_law 340 = .ok (.istore 5, 2) := by decide +kernel
theorem d_L_law_342 : decode b_L_law 342 = .ok (.aload_n 2, 1) := by decide +kernel
theorem d_L_law_343 : decode b_L_law 343 = .ok (.aload_n 0, 1) := by decide +kernel
theorem d_L_law_344 : decode b_L_law 344 = .ok (.iload 4, 2) := by decide +kernel
theorem d_L_law_346 : decode b_L_law 346 = .ok (.iconst 1, 1) := by decide +kernel
theorem d_L_law_347 : decode b_L_law 347 = .ok (.iadd, 1) := by decide +kernel
theorem d_L_law_348 : decode b_L_law 348 = .ok (.iaload, 1) := by decide +kernel
theorem d_L_law_349 : decode b_L_law 349 = .ok (.invokevirtual 90, 3) := by decide +kernel
theorem d_L_law_352 : decode b_L_law 352 = .ok (.goto 128, 3) := by decide +kernel
theorem d_L_law_355 : decode b_L_law 355 = .ok (.aload_n 1, 1) := by decide +kernel
theorem d_L_law_356 : decode b_L_law 356 = .ok (.aload_n 3, 1) := by decide +kernel
theorem d_L_law_357 : decode b_L_law 357 = .ok (.invokestatic 91, 3) := by decide +kernel
theorem d_L_law_360 : decode b_L_law 360 = .ok (.istore 5, 2) := by decide +kernel
theorem d_L_law_362 : decode b_L_law 362 = .ok (.aload_n 2, 1) := by decide +kernel
theorem d_L_law_363 : decode b_L_law 363 = .ok (.invokevirtual 93, 3) := by decide +kernel
theorem d_L_law_366 : decode b_L_law 366 = .ok (.istore 6, 2) := by decide +kernel
theorem d_L_law_368 : decode b_L_law 368 = .ok (.goto 112, 3) := by decide +kernel
theorem d_L_law_371 : decode b_L_law 371 = .ok (.aload_n 1, 1) := by decide +kernel
theorem d_L_law_372 : decode b_L_law 372 = .ok (.aload_n 3, 1) := by decide +kernel
theorem d_L_law_373 : decode b_L_law 373 = .ok (.invokestatic 94, 3) := by decide +kernel
theorem d_L_law_376 : decode b_L_law 376 = .ok (.istore 5, 2) := by decide +kernel
theorem d_L_law_378 : decode b_L_law 378 = .ok (.aload_n 2, 1) := by decide +kernel
theorem d_L_law_379 : decode b_L_law 379 = .ok (.invokevirtual 96, 3) := by decide +kernel
