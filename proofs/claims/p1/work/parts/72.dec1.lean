theorem d_L_law_213 : decode b_L_law 213 = .ok (.iadd, 1) := by decide +kernel
theorem d_L_law_214 : decode b_L_law 214 = .ok (.iaload, 1) := by decide +kernel
theorem d_L_law_215 : decode b_L_law 215 = .ok (.aload_n 3, 1) := by decide +kernel
theorem d_L_law_216 : decode b_L_law 216 = .ok (.invokestatic 68, 3) := by decide +kernel
theorem d_L_law_219 : decode b_L_law 219 = .ok (.istore 5, 2) := by decide +kernel
theorem d_L_law_221 : decode b_L_law 221 = .ok (.aload_n 2, 1) := by decide +kernel
theorem d_L_law_222 : decode b_L_law 222 = .ok (.aload_n 0, 1) := by decide +kernel
theorem d_L_law_223 : decode b_L_law 223 = .ok (.iload 4, 2) := by decide +kernel
theorem d_L_law_225 : decode b_L_law 225 = .ok (.iconst 1, 1) := by decide +kernel
theorem d_L_law_226 : decode b_L_law 226 = .ok (.iadd, 1) := by decide +kernel
theorem d_L_law_227 : decode b_L_law 227 = .ok (.iaload, 1) := by decide +kernel
theorem d_L_law_228 : decode b_L_law 228 = .ok (.invokevirtual 71, 3) := by decide +kernel
theorem d_L_law_231 : decode b_L_law 231 = .ok (.istore 6, 2) := by decide +kernel
theorem d_L_law_233 : decode b_L_law 233 = .ok (.aload_n 2, 1) := by decide +kernel
theorem d_L_law_234 : decode b_L_law 234 = .ok (.invokevirtual 65, 3) := by decide +kernel
theorem d_L_law_237 : decode b_L_law 237 = .ok (.iload 5, 2) := by decide +kernel
theorem d_L_law_239 : decode b_L_law 239 = .ok (.if_icmp .eq 5, 3) := by decide +kernel
theorem d_L_law_242 : decode b_L_law 242 = .ok (.iconst 0, 1) := by decide +kernel
theorem d_L_law_243 : decode b_L_law 243 = .ok (.ireturn, 1) := by decide +kernel
theorem d_L_law_244 : decode b_L_law 244 = .ok (.iload 5, 2) := by decide +kernel
theorem d_L_law_246 : decode b_L_law 246 = .ok (.ifCond .ne 15, 3) := by decide +kernel
theorem d_L_law_249 : decode b_L_law 249 = .ok (.aload_n 3, 1) := by decide +kernel
theorem d_L_law_250 : decode b_L_law 250 = .ok (.iconst 0, 1) := by decide +kernel
theorem d_L_law_251 : decode b_L_law 251 = .ok (.laload, 1) := by decide +kernel
theorem d_L_law_252 : decode b_L_law 252 = .ok (.iload 6, 2) := by decide +kernel
theorem d_L_law_254 : decode b_L_law 254 = .ok (.i2l, 1) := by decide +kernel
theorem d_L_law_255 : decode b_L_law 255 = .ok (.lcmp, 1) := by decide +kernel
theorem d_L_law_256 : decode b_L_law 256 = .ok (.ifCond .eq 5, 3) := by decide +kernel
theorem d_L_law_259 : decode b_L_law 259 = .ok (.iconst 0, 1) := by decide +kernel
theorem d_L_law_260 : decode b_L_law 260 = .ok (.ireturn, 1) := by decide +kernel
theorem d_L_law_261 : decode b_L_law 261 = .ok (.goto 451, 3) := by decide +kernel
theorem d_L_law_264 : decode b_L_law 264 = .ok (.aload_n 1, 1) := by decide +kernel
theorem d_L_law_265 : decode b_L_law 265 = .ok (.aload_n 3, 1) := by decide +kernel
theorem d_L_law_266 : decode b_L_law 266 = .ok (.invokestatic 72, 3) := by decide +kernel
theorem d_L_law_269 : decode b_L_law 269 = .ok (.istore 5, 2) := by decide +kernel
theorem d_L_law_271 : decode b_L_law 271 = .ok (.aload_n 2, 1) := by decide +kernel
theorem d_L_law_272 : decode b_L_law 272 = .ok (.invokevirtual 75, 3) := by decide +kernel
theorem d_L_law_275 : decode b_L_law 275 = .ok (.istore 6, 2) := by decide +kernel
theorem d_L_law_277 : decode b_L_law 277 = .ok (.aload_n 2, 1) := by decide +kernel
theorem d_L_law_278 : decode b_L_law 278 = .ok (.invokevirtual 65, 3) := by decide +kernel
theorem d_L_law_281 : decode b_L_law 281 = .ok (.iload 5, 2) := by decide +kernel
theorem d_L_law_283 : decode b_L_law 283 = .ok (.if_icmp .eq 5, 3) := by decide +kernel
theorem d_L_law_286 : decode b_L_law 286 = .ok (.iconst 0, 1) := by decide +kernel
theorem d_L_law_287 : decode b_L_law 287 = .ok (.ireturn, 1) := by decide +kernel
theorem d_L_law_288 : decode b_L_law 288 = .ok (.iload 5, 2) := by decide +kernel
theorem d_L_law_290 : decode b_L_law 290 = .ok (.ifCond .ne 15, 3) := by decide +kernel
theorem d_L_law_293 : decode b_L_law 293 = .ok (.aload_n 3, 1) := by decide +kernel
theorem d_L_law_294 : decode b_L_law 294 = .ok (.iconst 0, 1) := by decide +kernel
theorem d_L_law_295 : decode b_L_law 295 = .ok (.laload, 1) := by decide +kernel
theorem d_L_law_296 : decode b_L_law 296 = .ok (.iload 6, 2) := by decide +kernel
theorem d_L_law_298 : decode b_L_law 298 = .ok (.i2l, 1) := by decide +kernel
theorem d_L_law_299 : decode b_L_law 299 = .ok (.lcmp, 1) := by decide +kernel
theorem d_L_law_300 : decode b_L_law 300 = .ok (.ifCond .eq 5, 3) := by decide +kernel
theorem d_L_law_303 : decode b_L_law 303 = .ok (.iconst 0, 1) := by decide +kernel
theorem d_L_law_304 : decode b_L_law 304 = .ok (.ireturn, 1) := by decide +kernel
theorem d_L_law_305 : decode b_L_law 305 = .ok (.goto 407, 3) := by decide +kernel
theorem d_L_law_308 : decode b_L_law 308 = .ok (.aload_n 1, 1) := by decide +kernel
theorem d_L_law_309 : decode b_L_law 309 = .ok (.aload_n 0, 1) := by decide +kernel
theorem d_L_law_310 : decode b_L_law 310 = .ok (.iload 4, 2) := by decide +kernel
theorem d_L_law_312 : decode b_L_law 312 = .ok (.iconst 1, 1) := by decide +kernel
theorem d_L_law_313 : decode b_L_law 313 = .ok (.iadd, 1) := by decide +kernel
theorem d_L_law_314 : decode b_L_law 314 = .ok (.iaload, 1) := by decide +kernel
theorem d_L_law_315 : decode b_L_law 315 = .ok (.aload_n 0, 1) := by decide +kernel
theorem d_L_law_316 : decode b_L_law 316 = .ok (.iload 4, 2) := by decide +kernel
theorem d_L_law_318 : decode b_L_law 318 = .ok (.iconst 2, 1) := by decide +kernel
theorem d_L_law_319 : decode b_L_law 319 = .ok (.iadd, 1) := by decide +kernel
theorem d_L_law_320 : decode b_L_law 320 = .ok (.iaload, 1) := by decide +kernel
theorem d_L_law_321 : decode b_L_law 321 = .ok (.invokestatic 76, 3) := by decide +kernel
theorem d_L_law_324 : decode b_L_law 324 = .ok (.istore 5, 2) := by decide +kernel
theorem d_L_law_326 : decode b_L_law 326 = .ok (.aload_n 2, 1) := by decide +kernel
theorem d_L_law_327 : decode b_L_law 327 = .ok (.aload_n 0, 1) := by decide +kernel
theorem d_L_law_328 : decode b_L_law 328 = .ok (.iload 4, 2) := by decide +kernel
theorem d_L_law_330 : decode b_L_law 330 = .ok (.iconst 1, 1) := by decide +kernel
theorem d_L_law_331 : decode b_L_law 331 = .ok (.iadd, 1) := by decide +kernel
theorem d_L_law_332 : decode b_L_law 332 = .ok (.iaload, 1) := by decide +kernel
theorem d_L_law_333 : decode b_L_law 333 = .ok (.aload_n 0, 1) := by decide +kernel
theorem d_L_law_334 : decode b_L_law 334 = .ok (.iload 4, 2) := by decide +kernel
theorem d_L_law_336 : decode b_L_law 336 = .ok (.iconst 2, 1) := by decide +kernel
theorem d_L_law_337 : decode b_L_law 337 = .ok (.iadd, 1) := by decide +kernel
theorem d_L_law_338 : decode b_L_law 338 = .ok (.iaload, 1) := by decide +kernel
theorem d_L_law_339 : decode b_L_law 339 = .ok (.invokevirtual 79, 3) := by decide +kernel
theorem d_L_law_342 : decode b_L_law 342 = .ok (.aload_n 2, 1) := by decide +kernel
theorem d_L_law_343 : decode b_L_law 343 = .ok (.invokevirtual 65, 3) := by decide +kernel
theorem d_L_law_346 : decode b_L_law 346 = .ok (.iload 5, 2) := by decide +kernel
theorem d_L_law_348 : decode b_L_law 348 = .ok (.if_icmp .eq 5, 3) := by decide +kernel
theorem d_L_law_351 : decode b_L_law 351 = .ok (.iconst 0, 1) := by decide +kernel
theorem d_L_law_352 : decode b_L_law 352 = .ok (.ireturn, 1) := by decide +kernel
theorem d_L_law_353 : decode b_L_law 353 = .ok (.goto 359, 3) := by decide +kernel
theorem d_L_law_356 : decode b_L_law 356 = .ok (.aload_n 1, 1) := by decide +kernel
theorem d_L_law_357 : decode b_L_law 357 = .ok (.aload_n 0, 1) := by decide +kernel
theorem d_L_law_358 : decode b_L_law 358 = .ok (.iload 4, 2) := by decide +kernel
theorem d_L_law_360 : decode b_L_law 360 = .ok (.iconst 1, 1) := by decide +kernel
theorem d_L_law_361 : decode b_L_law 361 = .ok (.iadd, 1) := by decide +kernel
theorem d_L_law_362 : decode b_L_law 362 = .ok (.iaload, 1) := by decide +kernel
theorem d_L_law_363 : decode b_L_law 363 = .ok (.aload_n 3, 1) := by decide +kernel
theorem d_L_law_364 : decode b_L_law 364 = .ok (.invokestatic 80, 3) := by decide +kernel
theorem d_L_law_367 : decode b_L_law 367 = .ok (.istore 5, 2) := by decide +kernel
theorem d_L_law_369 : decode b_L_law 369 = .ok (.aload_n 2, 1) := by decide +kernel
theorem d_L_law_370 : decode b_L_law 370 = .ok (.aload_n 0, 1) := by decide +kernel
theorem d_L_law_371 : decode b_L_law 371 = .ok (.iload 4, 2) := by decide +kernel
theorem d_L_law_373 : decode b_L_law 373 = .ok (.iconst 1, 1) := by decide +kernel
theorem d_L_law_374 : decode b_L_law 374 = .ok (.iadd, 1) := by decide +kernel
theorem d_L_law_375 : decode b_L_law 375 = .ok (.iaload, 1) := by decide +kernel
theorem d_L_law_376 : decode b_L_law 376 = .ok (.invokevirtual 82, 3) := by decide +kernel
