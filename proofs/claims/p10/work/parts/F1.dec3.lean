theorem d_L_law_390 : decode b_L_law 390 = .ok (.ireturn, 1) := by decide +kernel
theorem d_L_law_391 : decode b_L_law 391 = .ok (.goto 96, 3) := by decide +kernel
theorem d_L_law_394 : decode b_L_law 394 = .ok (.aload_n 1, 1) := by decide +kernel
theorem d_L_law_395 : decode b_L_law 395 = .ok (.aload_n 0, 1) := by decide +kernel
theorem d_L_law_396 : decode b_L_law 396 = .ok (.iload 4, 2) := by decide +kernel
theorem d_L_law_398 : decode b_L_law 398 = .ok (.iconst 1, 1) := by decide +kernel
theorem d_L_law_399 : decode b_L_law 399 = .ok (.iadd, 1) := by decide +kernel
theorem d_L_law_400 : decode b_L_law 400 = .ok (.iaload, 1) := by decide +kernel
theorem d_L_law_401 : decode b_L_law 401 = .ok (.aload_n 0, 1) := by decide +kernel
theorem d_L_law_402 : decode b_L_law 402 = .ok (.iload 4, 2) := by decide +kernel
theorem d_L_law_404 : decode b_L_law 404 = .ok (.iconst 2, 1) := by decide +kernel
theorem d_L_law_405 : decode b_L_law 405 = .ok (.iadd, 1) := by decide +kernel
theorem d_L_law_406 : decode b_L_law 406 = .ok (.iaload, 1) := by decide +kernel
theorem d_L_law_407 : decode b_L_law 407 = .ok (.aload_n 3, 1) := by decide +kernel
theorem d_L_law_408 : decode b_L_law 408 = .ok (.invokestatic 97, 3) := by decide +kernel
theorem d_L_law_411 : decode b_L_law 411 = .ok (.istore 5, 2) := by decide +kernel
theorem d_L_law_413 : decode b_L_law 413 = .ok (.aload_n 2, 1) := by decide +kernel
theorem d_L_law_414 : decode b_L_law 414 = .ok (.aload_n 0, 1) := by decide +kernel
theorem d_L_law_415 : decode b_L_law 415 = .ok (.iload 4, 2) := by decide +kernel
theorem d_L_law_417 : decode b_L_law 417 = .ok (.iconst 1, 1) := by decide +kernel
theorem d_L_law_418 : decode b_L_law 418 = .ok (.iadd, 1) := by decide +kernel
theorem d_L_law_419 : decode b_L_law 419 = .ok (.iaload, 1) := by decide +kernel
theorem d_L_law_420 : decode b_L_law 420 = .ok (.aload_n 0, 1) := by decide +kernel
theorem d_L_law_421 : decode b_L_law 421 = .ok (.iload 4, 2) := by decide +kernel
theorem d_L_law_423 : decode b_L_law 423 = .ok (.iconst 2, 1) := by decide +kernel
theorem d_L_law_424 : decode b_L_law 424 = .ok (.iadd, 1) := by decide +kernel
theorem d_L_law_425 : decode b_L_law 425 = .ok (.iaload, 1) := by decide +kernel
theorem d_L_law_426 : decode b_L_law 426 = .ok (.invokevirtual 100, 3) := by decide +kernel
theorem d_L_law_429 : decode b_L_law 429 = .ok (.istore 6, 2) := by decide +kernel
theorem d_L_law_431 : decode b_L_law 431 = .ok (.goto 56, 3) := by decide +kernel
theorem d_L_law_434 : decode b_L_law 434 = .ok (.aload_n 1, 1) := by decide +kernel
theorem d_L_law_435 : decode b_L_law 435 = .ok (.aload_n 0, 1) := by decide +kernel
theorem d_L_law_436 : decode b_L_law 436 = .ok (.iload 4, 2) := by decide +kernel
theorem d_L_law_438 : decode b_L_law 438 = .ok (.iconst 1, 1) := by decide +kernel
theorem d_L_law_439 : decode b_L_law 439 = .ok (.iadd, 1) := by decide +kernel
theorem d_L_law_440 : decode b_L_law 440 = .ok (.iaload, 1) := by decide +kernel
theorem d_L_law_441 : decode b_L_law 441 = .ok (.aload_n 3, 1) := by decide +kernel
theorem d_L_law_442 : decode b_L_law 442 = .ok (.invokestatic 101, 3) := by decide +kernel
theorem d_L_law_445 : decode b_L_law 445 = .ok (.istore 5, 2) := by decide +kernel
theorem d_L_law_447 : decode b_L_law 447 = .ok (.aload_n 2, 1) := by decide +kernel
theorem d_L_law_448 : decode b_L_law 448 = .ok (.aload_n 0, 1) := by decide +kernel
theorem d_L_law_449 : decode b_L_law 449 = .ok (.iload 4, 2) := by decide +kernel
theorem d_L_law_451 : decode b_L_law 451 = .ok (.iconst 1, 1) := by decide +kernel
theorem d_L_law_452 : decode b_L_law 452 = .ok (.iadd, 1) := by decide +kernel
theorem d_L_law_453 : decode b_L_law 453 = .ok (.iaload, 1) := by decide +kernel
theorem d_L_law_454 : decode b_L_law 454 = .ok (.invokevirtual 103, 3) := by decide +kernel
theorem d_L_law_457 : decode b_L_law 457 = .ok (.istore 6, 2) := by decide +kernel
theorem d_L_law_459 : decode b_L_law 459 = .ok (.goto 28, 3) := by decide +kernel
theorem d_L_law_462 : decode b_L_law 462 = .ok (.aload_n 1, 1) := by decide +kernel
theorem d_L_law_463 : decode b_L_law 463 = .ok (.aload_n 0, 1) := by decide +kernel
theorem d_L_law_464 : decode b_L_law 464 = .ok (.iload 4, 2) := by decide +kernel
theorem d_L_law_466 : decode b_L_law 466 = .ok (.iconst 1, 1) := by decide +kernel
theorem d_L_law_467 : decode b_L_law 467 = .ok (.iadd, 1) := by decide +kernel
theorem d_L_law_468 : decode b_L_law 468 = .ok (.iaload, 1) := by decide +kernel
theorem d_L_law_469 : decode b_L_law 469 = .ok (.invokevirtual 104, 3) := by decide +kernel
theorem d_L_law_472 : decode b_L_law 472 = .ok (.pop, 1) := by decide +kernel
theorem d_L_law_473 : decode b_L_law 473 = .ok (.aload_n 2, 1) := by decide +kernel
theorem d_L_law_474 : decode b_L_law 474 = .ok (.aload_n 0, 1) := by decide +kernel
theorem d_L_law_475 : decode b_L_law 475 = .ok (.iload 4, 2) := by decide +kernel
theorem d_L_law_477 : decode b_L_law 477 = .ok (.iconst 1, 1) := by decide +kernel
theorem d_L_law_478 : decode b_L_law 478 = .ok (.iadd, 1) := by decide +kernel
theorem d_L_law_479 : decode b_L_law 479 = .ok (.iaload, 1) := by decide +kernel
theorem d_L_law_480 : decode b_L_law 480 = .ok (.invokevirtual 107, 3) := by decide +kernel
theorem d_L_law_483 : decode b_L_law 483 = .ok (.pop, 1) := by decide +kernel
theorem d_L_law_484 : decode b_L_law 484 = .ok (.goto 3, 3) := by decide +kernel
theorem d_L_law_487 : decode b_L_law 487 = .ok (.iinc 4 6, 3) := by decide +kernel
theorem d_L_law_490 : decode b_L_law 490 = .ok (.goto (-467), 3) := by decide +kernel
theorem d_L_law_493 : decode b_L_law 493 = .ok (.iconst 1, 1) := by decide +kernel
theorem d_L_law_494 : decode b_L_law 494 = .ok (.ireturn, 1) := by decide +kernel
