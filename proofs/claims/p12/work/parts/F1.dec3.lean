theorem d_L_law_379 : decode b_L_law 379 = .ok (.aload_n 0, 1) := by decide +kernel
theorem d_L_law_380 : decode b_L_law 380 = .ok (.iload 4, 2) := by decide +kernel
theorem d_L_law_382 : decode b_L_law 382 = .ok (.iconst 1, 1) := by decide +kernel
theorem d_L_law_383 : decode b_L_law 383 = .ok (.iadd, 1) := by decide +kernel
theorem d_L_law_384 : decode b_L_law 384 = .ok (.iaload, 1) := by decide +kernel
theorem d_L_law_385 : decode b_L_law 385 = .ok (.aload_n 0, 1) := by decide +kernel
theorem d_L_law_386 : decode b_L_law 386 = .ok (.iload 4, 2) := by decide +kernel
theorem d_L_law_388 : decode b_L_law 388 = .ok (.iconst 2, 1) := by decide +kernel
theorem d_L_law_389 : decode b_L_law 389 = .ok (.iadd, 1) := by decide +kernel
theorem d_L_law_390 : decode b_L_law 390 = .ok (.iaload, 1) := by decide +kernel
theorem d_L_law_391 : decode b_L_law 391 = .ok (.invokevirtual 97, 3) := by decide +kernel
theorem d_L_law_394 : decode b_L_law 394 = .ok (.istore 6, 2) := by decide +kernel
theorem d_L_law_396 : decode b_L_law 396 = .ok (.goto 84, 3) := by decide +kernel
theorem d_L_law_399 : decode b_L_law 399 = .ok (.aload_n 1, 1) := by decide +kernel
theorem d_L_law_400 : decode b_L_law 400 = .ok (.aload_n 0, 1) := by decide +kernel
theorem d_L_law_401 : decode b_L_law 401 = .ok (.iload 4, 2) := by decide +kernel
theorem d_L_law_403 : decode b_L_law 403 = .ok (.iconst 1, 1) := by decide +kernel
theorem d_L_law_404 : decode b_L_law 404 = .ok (.iadd, 1) := by decide +kernel
theorem d_L_law_405 : decode b_L_law 405 = .ok (.iaload, 1) := by decide +kernel
theorem d_L_law_406 : decode b_L_law 406 = .ok (.aload_n 3, 1) := by decide +kernel
theorem d_L_law_407 : decode b_L_law 407 = .ok (.invokestatic 98, 3) := by decide +kernel
theorem d_L_law_410 : decode b_L_law 410 = .ok (.istore 5, 2) := by decide +kernel
theorem d_L_law_412 : decode b_L_law 412 = .ok (.aload_n 2, 1) := by decide +kernel
theorem d_L_law_413 : decode b_L_law 413 = .ok (.aload_n 0, 1) := by decide +kernel
theorem d_L_law_414 : decode b_L_law 414 = .ok (.iload 4, 2) := by decide +kernel
theorem d_L_law_416 : decode b_L_law 416 = .ok (.iconst 1, 1) := by decide +kernel
theorem d_L_law_417 : decode b_L_law 417 = .ok (.iadd, 1) := by decide +kernel
theorem d_L_law_418 : decode b_L_law 418 = .ok (.iaload, 1) := by decide +kernel
theorem d_L_law_419 : decode b_L_law 419 = .ok (.invokevirtual 100, 3) := by decide +kernel
theorem d_L_law_422 : decode b_L_law 422 = .ok (.istore 6, 2) := by decide +kernel
theorem d_L_law_424 : decode b_L_law 424 = .ok (.aload_n 2, 1) := by decide +kernel
theorem d_L_law_425 : decode b_L_law 425 = .ok (.invokevirtual 101, 3) := by decide +kernel
theorem d_L_law_428 : decode b_L_law 428 = .ok (.iload 5, 2) := by decide +kernel
theorem d_L_law_430 : decode b_L_law 430 = .ok (.if_icmp .eq 5, 3) := by decide +kernel
theorem d_L_law_433 : decode b_L_law 433 = .ok (.iconst 0, 1) := by decide +kernel
theorem d_L_law_434 : decode b_L_law 434 = .ok (.ireturn, 1) := by decide +kernel
theorem d_L_law_435 : decode b_L_law 435 = .ok (.iload 5, 2) := by decide +kernel
theorem d_L_law_437 : decode b_L_law 437 = .ok (.ifCond .ne 15, 3) := by decide +kernel
theorem d_L_law_440 : decode b_L_law 440 = .ok (.aload_n 3, 1) := by decide +kernel
theorem d_L_law_441 : decode b_L_law 441 = .ok (.iconst 0, 1) := by decide +kernel
theorem d_L_law_442 : decode b_L_law 442 = .ok (.laload, 1) := by decide +kernel
theorem d_L_law_443 : decode b_L_law 443 = .ok (.iload 6, 2) := by decide +kernel
theorem d_L_law_445 : decode b_L_law 445 = .ok (.i2l, 1) := by decide +kernel
theorem d_L_law_446 : decode b_L_law 446 = .ok (.lcmp, 1) := by decide +kernel
theorem d_L_law_447 : decode b_L_law 447 = .ok (.ifCond .eq 5, 3) := by decide +kernel
theorem d_L_law_450 : decode b_L_law 450 = .ok (.iconst 0, 1) := by decide +kernel
theorem d_L_law_451 : decode b_L_law 451 = .ok (.ireturn, 1) := by decide +kernel
theorem d_L_law_452 : decode b_L_law 452 = .ok (.goto 28, 3) := by decide +kernel
theorem d_L_law_455 : decode b_L_law 455 = .ok (.aload_n 1, 1) := by decide +kernel
theorem d_L_law_456 : decode b_L_law 456 = .ok (.aload_n 0, 1) := by decide +kernel
theorem d_L_law_457 : decode b_L_law 457 = .ok (.iload 4, 2) := by decide +kernel
theorem d_L_law_459 : decode b_L_law 459 = .ok (.iconst 1, 1) := by decide +kernel
theorem d_L_law_460 : decode b_L_law 460 = .ok (.iadd, 1) := by decide +kernel
theorem d_L_law_461 : decode b_L_law 461 = .ok (.iaload, 1) := by decide +kernel
theorem d_L_law_462 : decode b_L_law 462 = .ok (.invokevirtual 104, 3) := by decide +kernel
theorem d_L_law_465 : decode b_L_law 465 = .ok (.pop, 1) := by decide +kernel
theorem d_L_law_466 : decode b_L_law 466 = .ok (.aload_n 2, 1) := by decide +kernel
theorem d_L_law_467 : decode b_L_law 467 = .ok (.aload_n 0, 1) := by decide +kernel
theorem d_L_law_468 : decode b_L_law 468 = .ok (.iload 4, 2) := by decide +kernel
theorem d_L_law_470 : decode b_L_law 470 = .ok (.iconst 1, 1) := by decide +kernel
theorem d_L_law_471 : decode b_L_law 471 = .ok (.iadd, 1) := by decide +kernel
theorem d_L_law_472 : decode b_L_law 472 = .ok (.iaload, 1) := by decide +kernel
theorem d_L_law_473 : decode b_L_law 473 = .ok (.invokevirtual 107, 3) := by decide +kernel
theorem d_L_law_476 : decode b_L_law 476 = .ok (.pop, 1) := by decide +kernel
theorem d_L_law_477 : decode b_L_law 477 = .ok (.goto 3, 3) := by decide +kernel
theorem d_L_law_480 : decode b_L_law 480 = .ok (.iinc 4 6, 3) := by decide +kernel
theorem d_L_law_483 : decode b_L_law 483 = .ok (.goto (-460), 3) := by decide +kernel
theorem d_L_law_486 : decode b_L_law 486 = .ok (.iconst 1, 1) := by decide +kernel
theorem d_L_law_487 : decode b_L_law 487 = .ok (.ireturn, 1) := by decide +kernel
