theorem d_L_law_258 : decode b_L_law 258 = .ok (.aload_n 2, 1) := by decide +kernel
theorem d_L_law_259 : decode b_L_law 259 = .ok (.invokevirtual 77, 3) := by decide +kernel
theorem d_L_law_262 : decode b_L_law 262 = .ok (.iload 5, 2) := by decide +kernel
theorem d_L_law_264 : decode b_L_law 264 = .ok (.if_icmp .eq 5, 3) := by decide +kernel
theorem d_L_law_267 : decode b_L_law 267 = .ok (.iconst 0, 1) := by decide +kernel
theorem d_L_law_268 : decode b_L_law 268 = .ok (.ireturn, 1) := by decide +kernel
theorem d_L_law_269 : decode b_L_law 269 = .ok (.goto 194, 3) := by decide +kernel
theorem d_L_law_272 : decode b_L_law 272 = .ok (.aload_n 1, 1) := by decide +kernel
theorem d_L_law_273 : decode b_L_law 273 = .ok (.aload_n 0, 1) := by decide +kernel
theorem d_L_law_274 : decode b_L_law 274 = .ok (.iload 4, 2) := by decide +kernel
theorem d_L_law_276 : decode b_L_law 276 = .ok (.iconst 1, 1) := by decide +kernel
theorem d_L_law_277 : decode b_L_law 277 = .ok (.iadd, 1) := by decide +kernel
theorem d_L_law_278 : decode b_L_law 278 = .ok (.iaload, 1) := by decide +kernel
theorem d_L_law_279 : decode b_L_law 279 = .ok (.aload_n 3, 1) := by decide +kernel
theorem d_L_law_280 : decode b_L_law 280 = .ok (.invokestatic 80, 3) := by decide +kernel
theorem d_L_law_283 : decode b_L_law 283 = .ok (.istore 5, 2) := by decide +kernel
theorem d_L_law_285 : decode b_L_law 285 = .ok (.aload_n 2, 1) := by decide +kernel
theorem d_L_law_286 : decode b_L_law 286 = .ok (.aload_n 0, 1) := by decide +kernel
theorem d_L_law_287 : decode b_L_law 287 = .ok (.iload 4, 2) := by decide +kernel
theorem d_L_law_289 : decode b_L_law 289 = .ok (.iconst 1, 1) := by decide +kernel
theorem d_L_law_290 : decode b_L_law 290 = .ok (.iadd, 1) := by decide +kernel
theorem d_L_law_291 : decode b_L_law 291 = .ok (.iaload, 1) := by decide +kernel
theorem d_L_law_292 : decode b_L_law 292 = .ok (.invokevirtual 82, 3) := by decide +kernel
theorem d_L_law_295 : decode b_L_law 295 = .ok (.istore 6, 2) := by decide +kernel
theorem d_L_law_297 : decode b_L_law 297 = .ok (.goto 166, 3) := by decide +kernel
theorem d_L_law_300 : decode b_L_law 300 = .ok (.aload_n 1, 1) := by decide +kernel
theorem d_L_law_301 : decode b_L_law 301 = .ok (.invokevirtual 83, 3) := by decide +kernel
theorem d_L_law_304 : decode b_L_law 304 = .ok (.pop, 1) := by decide +kernel
theorem d_L_law_305 : decode b_L_law 305 = .ok (.aload_n 2, 1) := by decide +kernel
theorem d_L_law_306 : decode b_L_law 306 = .ok (.invokevirtual 86, 3) := by decide +kernel
theorem d_L_law_309 : decode b_L_law 309 = .ok (.pop, 1) := by decide +kernel
theorem d_L_law_310 : decode b_L_law 310 = .ok (.goto 153, 3) := by decide +kernel
theorem d_L_law_313 : decode b_L_law 313 = .ok (.aload_n 1, 1) := by decide +kernel
theorem d_L_law_314 : decode b_L_law 314 = .ok (.aload_n 0, 1) := by decide +kernel
theorem d_L_law_315 : decode b_L_law 315 = .ok (.iload 4, 2) := by decide +kernel
theorem d_L_law_317 : decode b_L_law 317 = .ok (.iconst 1, 1) := by decide +kernel
theorem d_L_law_318 : decode b_L_law 318 = .ok (.iadd, 1) := by decide +kernel
theorem d_L_law_319 : decode b_L_law 319 = .ok (.iaload, 1) := by decide +kernel
theorem d_L_law_320 : decode b_L_law 320 = .ok (.invokestatic 87, 3) := by decide +kernel
theorem d_L_law_323 : decode b_L_law 323 = .ok (.istore 5, 2) := by decide +kernel
theorem d_L_law_325 : decode b_L_law 325 = .ok (.aload_n 2, 1) := by decide +kernel
theorem d_L_law_326 : decode b_L_law 326 = .ok (.aload_n 0, 1) := by decide +kernel
theorem d_L_law_327 : decode b_L_law 327 = .ok (.iload 4, 2) := by decide +kernel
theorem d_L_law_329 : decode b_L_law 329 = .ok (.iconst 1, 1) := by decide +kernel
theorem d_L_law_330 : decode b_L_law 330 = .ok (.iadd, 1) := by decide +kernel
theorem d_L_law_331 : decode b_L_law 331 = .ok (.iaload, 1) := by decide +kernel
theorem d_L_law_332 : decode b_L_law 332 = .ok (.invokevirtual 90, 3) := by decide +kernel
theorem d_L_law_335 : decode b_L_law 335 = .ok (.goto 128, 3) := by decide +kernel
theorem d_L_law_338 : decode b_L_law 338 = .ok (.aload_n 1, 1) := by decide +kernel
theorem d_L_law_339 : decode b_L_law 339 = .ok (.aload_n 3, 1) := by decide +kernel
theorem d_L_law_340 : decode b_L_law 340 = .ok (.invokestatic 91, 3) := by decide +kernel
theorem d_L_law_343 : decode b_L_law 343 = .ok (.istore 5, 2) := by decide +kernel
theorem d_L_law_345 : decode b_L_law 345 = .ok (.aload_n 2, 1) := by decide +kernel
theorem d_L_law_346 : decode b_L_law 346 = .ok (.invokevirtual 93, 3) := by decide +kernel
theorem d_L_law_349 : decode b_L_law 349 = .ok (.istore 6, 2) := by decide +kernel
theorem d_L_law_351 : decode b_L_law 351 = .ok (.goto 112, 3) := by decide +kernel
theorem d_L_law_354 : decode b_L_law 354 = .ok (.aload_n 1, 1) := by decide +kernel
theorem d_L_law_355 : decode b_L_law 355 = .ok (.aload_n 3, 1) := by decide +kernel
theorem d_L_law_356 : decode b_L_law 356 = .ok (.invokestatic 94, 3) := by decide +kernel
theorem d_L_law_359 : decode b_L_law 359 = .ok (.istore 5, 2) := by decide +kernel
theorem d_L_law_361 : decode b_L_law 361 = .ok (.aload_n 2, 1) := by decide +kernel
theorem d_L_law_362 : decode b_L_law 362 = .ok (.invokevirtual 96, 3) := by decide +kernel
theorem d_L_law_365 : decode b_L_law 365 = .ok (.istore 6, 2) := by decide +kernel
theorem d_L_law_367 : decode b_L_law 367 = .ok (.goto 96, 3) := by decide +kernel
theorem d_L_law_370 : decode b_L_law 370 = .ok (.aload_n 1, 1) := by decide +kernel
theorem d_L_law_371 : decode b_L_law 371 = .ok (.aload_n 0, 1) := by decide +kernel
theorem d_L_law_372 : decode b_L_law 372 = .ok (.iload 4, 2) := by decide +kernel
