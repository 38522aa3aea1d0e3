theorem d_L_law_267 : decode b_L_law 267 = .ok (.iaload, 1) := by decide +kernel
theorem d_L_law_268 : decode b_L_law 268 = .ok (.aload_n 3, 1) := by decide +kernel
theorem d_L_law_269 : decode b_L_law 269 = .ok (.invokestatic 77, 3) := by decide +kernel
theorem d_L_law_272 : decode b_L_law 272 = .ok (.istore 5, 2) := by decide +kernel
theorem d_L_law_274 : decode b_L_law 274 = .ok (.aload_n 2, 1) := by decide +kernel
theorem d_L_law_275 : decode b_L_law 275 = .ok (.aload_n 0, 1) := by decide +kernel
theorem d_L_law_276 : decode b_L_law 276 = .ok (.iload 4, 2) := by decide +kernel
theorem d_L_law_278 : decode b_L_law 278 = .ok (.iconst 1, 1) := by decide +kernel
theorem d_L_law_279 : decode b_L_law 279 = .ok (.iadd, 1) := by decide +kernel
theorem d_L_law_280 : decode b_L_law 280 = .ok (.iaload, 1) := by decide +kernel
theorem d_L_law_281 : decode b_L_law 281 = .ok (.invokevirtual 79, 3) := by decide +kernel
theorem d_L_law_284 : decode b_L_law 284 = .ok (.istore 6, 2) := by decide +kernel
theorem d_L_law_286 : decode b_L_law 286 = .ok (.aload_n 2, 1) := by decide +kernel
theorem d_L_law_287 : decode b_L_law 287 = .ok (.invokevirtual 80, 3) := by decide +kernel
theorem d_L_law_290 : decode b_L_law 290 = .ok (.iload 5, 2) := by decide +kernel
theorem d_L_law_292 : decode b_L_law 292 = .ok (.if_icmp .eq 5, 3) := by decide +kernel
theorem d_L_law_295 : decode b_L_law 295 = .ok (.iconst 0, 1) := by decide +kernel
theorem d_L_law_296 : decode b_L_law 296 = .ok (.ireturn, 1) := by decide +kernel
theorem d_L_law_297 : decode b_L_law 297 = .ok (.iload 5, 2) := by decide +kernel
theorem d_L_law_299 : decode b_L_law 299 = .ok (.ifCond .ne 22, 3) := by decide +kernel
theorem d_L_law_302 : decode b_L_law 302 = .ok (.aload_n 3, 1) := by decide +kernel
theorem d_L_law_303 : decode b_L_law 303 = .ok (.iconst 0, 1) := by decide +kernel
theorem d_L_law_304 : decode b_L_law 304 = .ok (.laload, 1) := by decide +kernel
theorem d_L_law_305 : decode b_L_law 305 = .ok (.iload 6, 2) := by decide +kernel
theorem d_L_law_307 : decode b_L_law 307 = .ok (.ifCond .eq 7, 3) := by decide +kernel
theorem d_L_law_310 : decode b_L_law 310 = .ok (.lconst 1, 1) := by decide +kernel
theorem d_L_law_311 : decode b_L_law 311 = .ok (.goto 4, 3) := by decide +kernel
theorem d_L_law_314 : decode b_L_law 314 = .ok (.lconst 0, 1) := by decide +kernel
theorem d_L_law_315 : decode b_L_law 315 = .ok (.lcmp, 1) := by decide +kernel
theorem d_L_law_316 : decode b_L_law 316 = .ok (.ifCond .eq 5, 3) := by decide +kernel
theorem d_L_law_319 : decode b_L_law 319 = .ok (.iconst 0, 1) := by decide +kernel
theorem d_L_law_320 : decode b_L_law 320 = .ok (.ireturn, 1) := by decide +kernel
theorem d_L_law_321 : decode b_L_law 321 = .ok (.goto 166, 3) := by decide +kernel
theorem d_L_law_324 : decode b_L_law 324 = .ok (.aload_n 1, 1) := by decide +kernel
theorem d_L_law_325 : decode b_L_law 325 = .ok (.invokevirtual 83, 3) := by decide +kernel
theorem d_L_law_328 : decode b_L_law 328 = .ok (.pop, 1) := by decide +kernel
theorem d_L_law_329 : decode b_L_law 329 = .ok (.aload_n 2, 1) := by decide +kernel
theorem d_L_law_330 : decode b_L_law 330 = .ok (.invokevirtual 86, 3) := by decide +kernel
theorem d_L_law_333 : decode b_L_law 333 = .ok (.pop, 1) := by decide +kernel
theorem d_L_law_334 : decode b_L_law 334 = .ok (.goto 153, 3) := by decide +kernel
theorem d_L_law_337 : decode b_L_law 337 = .ok (.aload_n 1, 1) := by decide +kernel
theorem d_L_law_338 : decode b_L_law 338 = .ok (.aload_n 0, 1) := by decide +kernel
theorem d_L_law_339 : decode b_L_law 339 = .ok (.iload 4, 2) := by decide +kernel
theorem d_L_law_341 : decode b_L_law 341 = .ok (.iconst 1, 1) := by decide +kernel
theorem d_L_law_342 : decode b_L_law 342 = .ok (.iadd, 1) := by decide +kernel
theorem d_L_law_343 : decode b_L_law 343 = .ok (.iaload, 1) := by decide +kernel
theorem d_L_law_344 : decode b_L_law 344 = .ok (.invokestatic 87, 3) := by decide +kernel
theorem d_L_law_347 : decode b_L_law 347 = .ok (.istore 5, 2) := by decide +kernel
theorem d_L_law_349 : decode b_L_law 349 = .ok (.aload_n 2, 1) := by decide +kernel
theorem d_L_law_350 : decode b_L_law 350 = .ok (.aload_n 0, 1) := by decide +kernel
theorem d_L_law_351 : decode b_L_law 351 = .ok (.iload 4, 2) := by decide +kernel
theorem d_L_law_353 : decode b_L_law 353 = .ok (.iconst 1, 1) := by decide +kernel
theorem d_L_law_354 : decode b_L_law 354 = .ok (.iadd, 1) := by decide +kernel
theorem d_L_law_355 : decode b_L_law 355 = .ok (.iaload, 1) := by decide +kernel
theorem d_L_law_356 : decode b_L_law 356 = .ok (.invokevirtual 90, 3) := by decide +kernel
theorem d_L_law_359 : decode b_L_law 359 = .ok (.goto 128, 3) := by decide +kernel
theorem d_L_law_362 : decode b_L_law 362 = .ok (.aload_n 1, 1) := by decide +kernel
theorem d_L_law_363 : decode b_L_law 363 = .ok (.aload_n 3, 1) := by decide +kernel
theorem d_L_law_364 : decode b_L_law 364 = .ok (.invokestatic 91, 3) := by decide +kernel
theorem d_L_law_367 : decode b_L_law 367 = .ok (.istore 5, 2) := by decide +kernel
theorem d_L_law_369 : decode b_L_law 369 = .ok (.aload_n 2, 1) := by decide +kernel
theorem d_L_law_370 : decode b_L_law 370 = .ok (.invokevirtual 93, 3) := by decide +kernel
theorem d_L_law_373 : decode b_L_law 373 = .ok (.istore 6, 2) := by decide +kernel
theorem d_L_law_375 : decode b_L_law 375 = .ok (.goto 112, 3) := by decide +kernel
theorem d_L_law_378 : decode b_L_law 378 = .ok (.aload_n 1, 1) := by decide +kernel
theorem d_L_law_379 : decode b_L_law 379 = .ok (.aload_n 3, 1) := by decide +kernel
theorem d_L_law_380 : decode b_L_law 380 = .ok (.invokestatic 94, 3) := by decide +kernel
theorem d_L_law_383 : decode b_L_law 383 = .ok (.istore 5, 2) := by decide +kernel
theorem d_L_law_385 : decode b_L_law 385 = .ok (.aload_n 2, 1) := by decide +kernel
theorem d_L_law_386 : decode b_L_law 386 = .ok (.invokevirtual 96, 3) := by decide +kernel
