theorem d_F_times_400 : decode b_F_times 400 = .ok (.lload 31, 2) := by decide +kernel
theorem d_F_times_402 : decode b_F_times 402 = .ok (.lmul, 1) := by decide +kernel
theorem d_F_times_403 : decode b_F_times 403 = .ok (.ladd, 1) := by decide +kernel
theorem d_F_times_404 : decode b_F_times 404 = .ok (.lmul, 1) := by decide +kernel
theorem d_F_times_405 : decode b_F_times 405 = .ok (.ladd, 1) := by decide +kernel
theorem d_F_times_406 : decode b_F_times 406 = .ok (.lastore, 1) := by decide +kernel
theorem d_F_times_407 : decode b_F_times 407 = .ok (.aload_n 0, 1) := by decide +kernel
theorem d_F_times_408 : decode b_F_times 408 = .ok (.iconst 4, 1) := by decide +kernel
theorem d_F_times_409 : decode b_F_times 409 = .ok (.lload_n 3, 1) := by decide +kernel
theorem d_F_times_410 : decode b_F_times 410 = .ok (.lload 31, 2) := by decide +kernel
theorem d_F_times_412 : decode b_F_times 412 = .ok (.lmul, 1) := by decide +kernel
theorem d_F_times_413 : decode b_F_times 413 = .ok (.lload 43, 2) := by decide +kernel
theorem d_F_times_415 : decode b_F_times 415 = .ok (.lload 29, 2) := by decide +kernel
theorem d_F_times_417 : decode b_F_times 417 = .ok (.lmul, 1) := by decide +kernel
theorem d_F_times_418 : decode b_F_times 418 = .ok (.ladd, 1) := by decide +kernel
theorem d_F_times_419 : decode b_F_times 419 = .ok (.lload 7, 2) := by decide +kernel
theorem d_F_times_421 : decode b_F_times 421 = .ok (.lload 27, 2) := by decide +kernel
theorem d_F_times_423 : decode b_F_times 423 = .ok (.lmul, 1) := by decide +kernel
theorem d_F_times_424 : decode b_F_times 424 = .ok (.ladd, 1) := by decide +kernel
theorem d_F_times_425 : decode b_F_times 425 = .ok (.lload 45, 2) := by decide +kernel
theorem d_F_times_427 : decode b_F_times 427 = .ok (.lload 25, 2) := by decide +kernel
theorem d_F_times_429 : decode b_F_times 429 = .ok (.lmul, 1) := by decide +kernel
theorem d_F_times_430 : decode b_F_times 430 = .ok (.ladd, 1) := by decide +kernel
theorem d_F_times_431 : decode b_F_times 431 = .ok (.lload 11, 2) := by decide +kernel
theorem d_F_times_433 : decode b_F_times 433 = .ok (.lload 23, 2) := by decide +kernel
theorem d_F_times_435 : decode b_F_times 435 = .ok (.lmul, 1) := by decide +kernel
theorem d_F_times_436 : decode b_F_times 436 = .ok (.ladd, 1) := by decide +kernel
theorem d_F_times_437 : decode b_F_times 437 = .ok (.ldc2_w 51, 3) := by decide +kernel
theorem d_F_times_440 : decode b_F_times 440 = .ok (.lload 47, 2) := by decide +kernel
theorem d_F_times_442 : decode b_F_times 442 = .ok (.lload 41, 2) := by decide +kernel
theorem d_F_times_444 : decode b_F_times 444 = .ok (.lmul, 1) := by decide +kernel
theorem d_F_times_445 : decode b_F_times 445 = .ok (.lload 15, 2) := by decide +kernel
theorem d_F_times_447 : decode b_F_times 447 = .ok (.lload 39, 2) := by decide +kernel
theorem d_F_times_449 : decode b_F_times 449 = .ok (.lmul, 1) := by decide +kernel
theorem d_F_times_450 : decode b_F_times 450 = .ok (.ladd, 1) := by decide +kernel
theorem d_F_times_451 : decode b_F_times 451 = .ok (.lload 49, 2) := by decide +kernel
theorem d_F_times_453 : decode b_F_times 453 = .ok (.lload 37, 2) := by decide +kernel
theorem d_F_times_455 : decode b_F_times 455 = .ok (.lmul, 1) := by decide +kernel
theorem d_F_times_456 : decode b_F_times 456 = .ok (.ladd, 1) := by decide +kernel
theorem d_F_times_457 : decode b_F_times 457 = .ok (.lload 19, 2) := by decide +kernel
theorem d_F_times_459 : decode b_F_times 459 = .ok (.lload 35, 2) := by decide +kernel
theorem d_F_times_461 : decode b_F_times 461 = .ok (.lmul, 1) := by decide +kernel
theorem d_F_times_462 : decode b_F_times 462 = .ok (.ladd, 1) := by decide +kernel
theorem d_F_times_463 : decode b_F_times 463 = .ok (.lload 51, 2) := by decide +kernel
theorem d_F_times_465 : decode b_F_times 465 = .ok (.lload 33, 2) := by decide +kernel
theorem d_F_times_467 : decode b_F_times 467 = .ok (.lmul, 1) := by decide +kernel
theorem d_F_times_468 : decode b_F_times 468 = .ok (.ladd, 1) := by decide +kernel
theorem d_F_times_469 : decode b_F_times 469 = .ok (.lmul, 1) := by decide +kernel
theorem d_F_times_470 : decode b_F_times 470 = .ok (.ladd, 1) := by decide +kernel
theorem d_F_times_471 : decode b_F_times 471 = .ok (.lastore, 1) := by decide +kernel
theorem d_F_times_472 : decode b_F_times 472 = .ok (.aload_n 0, 1) := by decide +kernel
theorem d_F_times_473 : decode b_F_times 473 = .ok (.iconst 5, 1) := by decide +kernel
theorem d_F_times_474 : decode b_F_times 474 = .ok (.lload_n 3, 1) := by decide +kernel
theorem d_F_times_475 : decode b_F_times 475 = .ok (.lload 33, 2) := by decide +kernel
theorem d_F_times_477 : decode b_F_times 477 = .ok (.lmul, 1) := by decide +kernel
theorem d_F_times_478 : decode b_F_times 478 = .ok (.lload 5, 2) := by decide +kernel
theorem d_F_times_480 : decode b_F_times 480 = .ok (.lload 31, 2) := by decide +kernel
theorem d_F_times_482 : decode b_F_times 482 = .ok (.lmul, 1) := by decide +kernel
theorem d_F_times_483 : decode b_F_times 483 = .ok (.ladd, 1) := by decide +kernel
theorem d_F_times_484 : decode b_F_times 484 = .ok (.lload 7, 2) := by decide +kernel
theorem d_F_times_486 : decode b_F_times 486 = .ok (.lload 29, 2) := by decide +kernel
theorem d_F_times_488 : decode b_F_times 488 = .ok (.lmul, 1) := by decide +kernel
theorem d_F_times_489 : decode b_F_times 489 = .ok (.ladd, 1) := by decide +kernel
theorem d_F_times_490 : decode b_F_times 490 = .ok (.lload 9, 2) := by decide +kernel
theorem d_F_times_492 : decode b_F_times 492 = .ok (.lload 27, 2) := by decide +kernel
theorem d_F_times_494 : decode b_F_times 494 = .ok (.lmul, 1) := by decide +kernel
theorem d_F_times_495 : decode b_F_times 495 = .ok (.ladd, 1) := by decide +kernel
theorem d_F_times_496 : decode b_F_times 496 = .ok (.lload 11, 2) := by decide +kernel
theorem d_F_times_498 : decode b_F_times 498 = .ok (.lload 25, 2) := by decide +kernel
theorem d_F_times_500 : decode b_F_times 500 = .ok (.lmul, 1) := by decide +kernel
theorem d_F_times_501 : decode b_F_times 501 = .ok (.ladd, 1) := by decide +kernel
theorem d_F_times_502 : decode b_F_times 502 = .ok (.lload 13, 2) := by decide +kernel
theorem d_F_times_504 : decode b_F_times 504 = .ok (.lload 23, 2) := by decide +kernel
theorem d_F_times_506 : decode b_F_times 506 = .ok (.lmul, 1) := by decide +kernel
theorem d_F_times_507 : decode b_F_times 507 = .ok (.ladd, 1) := by decide +kernel
theorem d_F_times_508 : decode b_F_times 508 = .ok (.ldc2_w 51, 3) := by decide +kernel
theorem d_F_times_511 : decode b_F_times 511 = .ok (.lload 15, 2) := by decide +kernel
theorem d_F_times_513 : decode b_F_times 513 = .ok (.lload 41, 2) := by decide +kernel
theorem d_F_times_515 : decode b_F_times 515 = .ok (.lmul, 1) := by decide +kernel
theorem d_F_times_516 : decode b_F_times 516 = .ok (.lload 17, 2) := by decide +kernel
theorem d_F_times_518 : decode b_F_times 518 = .ok (.lload 39, 2) := by decide +kernel
theorem d_F_times_520 : decode b_F_times 520 = .ok (.lmul, 1) := by decide +kernel
theorem d_F_times_521 : decode b_F_times 521 = .ok (.ladd, 1) := by decide +kernel
theorem d_F_times_522 : decode b_F_times 522 = .ok (.lload 19, 2) := by decide +kernel
theorem d_F_times_524 : decode b_F_times 524 = .ok (.lload 37, 2) := by decide +kernel
theorem d_F_times_526 : decode b_F_times 526 = .ok (.lmul, 1) := by decide +kernel
theorem d_F_times_527 : decode b_F_times 527 = .ok (.ladd, 1) := by decide +kernel
theorem d_F_times_528 : decode b_F_times 528 = .ok (.lload 21, 2) := by decide +kernel
theorem d_F_times_530 : decode b_F_times 530 = .ok (.lload 35, 2) := by decide +kernel
theorem d_F_times_532 : decode b_F_times 532 = .ok (.lmul, 1) := by decide +kernel
theorem d_F_times_533 : decode b_F_times 533 = .ok (.ladd, 1) := by decide +kernel
theorem d_F_times_534 : decode b_F_times 534 = .ok (.lmul, 1) := by decide +kernel
theorem d_F_times_535 : decode b_F_times 535 = .ok (.ladd, 1) := by decide +kernel
theorem d_F_times_536 : decode b_F_times 536 = .ok (.lastore, 1) := by decide +kernel
theorem d_F_times_537 : decode b_F_times 537 = .ok (.aload_n 0, 1) := by decide +kernel
theorem d_F_times_538 : decode b_F_times 538 = .ok (.bipush 6, 2) := by decide +kernel
theorem d_F_times_540 : decode b_F_times 540 = .ok (.lload_n 3, 1) := by decide +kernel
theorem d_F_times_541 : decode b_F_times 541 = .ok (.lload 35, 2) := by decide +kernel
theorem d_F_times_543 : decode b_F_times 543 = .ok (.lmul, 1) := by decide +kernel
theorem d_F_times_544 : decode b_F_times 544 = .ok (.lload 43, 2) := by decide +kernel
theorem d_F_times_546 : decode b_F_times 546 = .ok (.lload 33, 2) := by decide +kernel
theorem d_F_times_548 : decode b_F_times 548 = .ok (.lmul, 1) := by decide +kernel
theorem d_F_times_549 : decode b_F_times 549 = .ok (.ladd, 1) := by decide +kernel
theorem d_F_times_550 : decode b_F_times 550 = .ok (.lload 7, 2) := by decide +kernel
theorem d_F_times_552 : decode b_F_times 552 = .ok (.lload 31, 2) := by decide +kernel
theorem d_F_times_554 : decode b_F_times 554 = .ok (.lmul, 1) := by decide +kernel
theorem d_F_times_555 : decode b_F_times 555 = .ok (.ladd, 1) := by decide +kernel
theorem d_F_times_556 : decode b_F_times 556 = .ok (.lload 45, 2) := by decide +kernel
theorem d_F_times_558 : decode b_F_times 558 = .ok (.lload 29, 2) := by decide +kernel
theorem d_F_times_560 : decode b_F_times 560 = .ok (.lmul, 1) := by decide +kernel
theorem d_F_times_561 : decode b_F_times 561 = .ok (.ladd, 1) := by decide +kernel
theorem d_F_times_562 : decode b_F_times 562 = .ok (.lload 11, 2) := by decide +kernel
theorem d_F_times_564 : decode b_F_times 564 = .ok (.lload 27, 2) := by decide +kernel
theorem d_F_times_566 : decode b_F_times 566 = .ok (.lmul, 1) := by decide +kernel
theorem d_F_times_567 : decode b_F_times 567 = .ok (.ladd, 1) := by decide +kernel
theorem d_F_times_568 : decode b_F_times 568 = .ok (.lload 47, 2) := by decide +kernel
theorem d_F_times_570 : decode b_F_times 570 = .ok (.lload 25, 2) := by decide +kernel
theorem d_F_times_572 : decode b_F_times 572 = .ok (.lmul, 1) := by decide +kernel
theorem d_F_times_573 : decode b_F_times 573 = .ok (.ladd, 1) := by decide +kernel
theorem d_F_times_574 : decode b_F_times 574 = .ok (.lload 15, 2) := by decide +kernel
theorem d_F_times_576 : decode b_F_times 576 = .ok (.lload 23, 2) := by decide +kernel
theorem d_F_times_578 : decode b_F_times 578 = .ok (.lmul, 1) := by decide +kernel
theorem d_F_times_579 : decode b_F_times 579 = .ok (.ladd, 1) := by decide +kernel
theorem d_F_times_580 : decode b_F_times 580 = .ok (.ldc2_w 51, 3) := by decide +kernel
theorem d_F_times_583 : decode b_F_times 583 = .ok (.lload 49, 2) := by decide +kernel
theorem d_F_times_585 : decode b_F_times 585 = .ok (.lload 41, 2) := by decide +kernel
theorem d_F_times_587 : decode b_F_times 587 = .ok (.lmul, 1) := by decide +kernel
theorem d_F_times_588 : decode b_F_times 588 = .ok (.lload 19, 2) := by decide +kernel
theorem d_F_times_590 : decode b_F_times 590 = .ok (.lload 39, 2) := by decide +kernel
theorem d_F_times_592 : decode b_F_times 592 = .ok (.lmul, 1) := by decide +kernel
theorem d_F_times_593 : decode b_F_times 593 = .ok (.ladd, 1) := by decide +kernel
theorem d_F_times_594 : decode b_F_times 594 = .ok (.lload 51, 2) := by decide +kernel
theorem d_F_times_596 : decode b_F_times 596 = .ok (.lload 37, 2) := by decide +kernel
theorem d_F_times_598 : decode b_F_times 598 = .ok (.lmul, 1) := by decide +kernel
theorem d_F_times_599 : decode b_F_times 599 = .ok (.ladd, 1) := by decide +kernel
theorem d_F_times_600 : decode b_F_times 600 = .ok (.lmul, 1) := by decide +kernel
theorem d_F_times_601 : decode b_F_times 601 = .ok (.ladd, 1) := by decide +kernel
theorem d_F_times_602 : decode b_F_times 602 = .ok (.lastore, 1) := by decide +kernel
theorem d_F_times_603 : decode b_F_times 603 = .ok (.aload_n 0, 1) := by decide +kernel
theorem d_F_times_604 : decode b_F_times 604 = .ok (.bipush 7, 2) := by decide +kernel
theorem d_F_times_606 : decode b_F_times 606 = .ok (.lload_n 3, 1) := by decide +kernel
theorem d_F_times_607 : decode b_F_times 607 = .ok (.lload 37, 2) := by decide +kernel
theorem d_F_times_609 : decode b_F_times 609 = .ok (.lmul, 1) := by decide +kernel
theorem d_F_times_610 : decode b_F_times 610 = .ok (.lload 5, 2) := by decide +kernel
theorem d_F_times_612 : decode b_F_times 612 = .ok (.lload 35, 2) := by decide +kernel
theorem d_F_times_614 : decode b_F_times 614 = .ok (.lmul, 1) := by decide +kernel
theorem d_F_times_615 : decode b_F_times 615 = .ok (.ladd, 1) := by decide +kernel
theorem d_F_times_616 : decode b_F_times 616 = .ok (.lload 7, 2) := by decide +kernel
theorem d_F_times_618 : decode b_F_times 618 = .ok (.lload 33, 2) := by decide +kernel
theorem d_F_times_620 : decode b_F_times 620 = .ok (.lmul, 1) := by decide +kernel
theorem d_F_times_621 : decode b_F_times 621 = .ok (.ladd, 1) := by decide +kernel
theorem d_F_times_622 : decode b_F_times 622 = .ok (.lload 9, 2) := by decide +kernel
theorem d_F_times_624 : decode b_F_times 624 = .ok (.lload 31, 2) := by decide +kernel
theorem d_F_times_626 : decode b_F_times 626 = .ok (.lmul, 1) := by decide +kernel
theorem d_F_times_627 : decode b_F_times 627 = .ok (.ladd, 1) := by decide +kernel
theorem d_F_times_628 : decode b_F_times 628 = .ok (.lload 11, 2) := by decide +kernel
theorem d_F_times_630 : decode b_F_times 630 = .ok (.lload 29, 2) := by decide +kernel
theorem d_F_times_632 : decode b_F_times 632 = .ok (.lmul, 1) := by decide +kernel
theorem d_F_times_633 : decode b_F_times 633 = .ok (.ladd, 1) := by decide +kernel
theorem d_F_times_634 : decode b_F_times 634 = .ok (.lload 13, 2) := by decide +kernel
theorem d_F_times_636 : decode b_F_times 636 = .ok (.lload 27, 2) := by decide +kernel
theorem d_F_times_638 : decode b_F_times 638 = .ok (.lmul, 1) := by decide +kernel
theorem d_F_times_639 : decode b_F_times 639 = .ok (.ladd, 1) := by decide +kernel
theorem d_F_times_640 : decode b_F_times 640 = .ok (.lload 15, 2) := by decide +kernel
theorem d_F_times_642 : decode b_F_times 642 = .ok (.lload 25, 2) := by decide +kernel
theorem d_F_times_644 : decode b_F_times 644 = .ok (.lmul, 1) := by decide +kernel
theorem d_F_times_645 : decode b_F_times 645 = .ok (.ladd, 1) := by decide +kernel
theorem d_F_times_646 : decode b_F_times 646 = .ok (.lload 17, 2) := by decide +kernel
theorem d_F_times_648 : decode b_F_times 648 = .ok (.lload 23, 2) := by decide +kernel
theorem d_F_times_650 : decode b_F_times 650 = .ok (.lmul, 1) := by decide +kernel
theorem d_F_times_651 : decode b_F_times 651 = .ok (.ladd, 1) := by decide +kernel
theorem d_F_times_652 : decode b_F_times 652 = .ok (.ldc2_w 51, 3) := by decide +kernel
theorem d_F_times_655 : decode b_F_times 655 = .ok (.lload 19, 2) := by decide +kernel
theorem d_F_times_657 : decode b_F_times 657 = .ok (.lload 41, 2) := by decide +kernel
theorem d_F_times_659 : decode b_F_times 659 = .ok (.lmul, 1) := by decide +kernel
theorem d_F_times_660 : decode b_F_times 660 = .ok (.lload 21, 2) := by decide +kernel
theorem d_F_times_662 : decode b_F_times 662 = .ok (.lload 39, 2) := by decide +kernel
theorem d_F_times_664 : decode b_F_times 664 = .ok (.lmul, 1) := by decide +kernel
theorem d_F_times_665 : decode b_F_times 665 = .ok (.ladd, 1) := by decide +kernel
theorem d_F_times_666 : decode b_F_times 666 = .ok (.lmul, 1) := by decide +kernel
theorem d_F_times_667 : decode b_F_times 667 = .ok (.ladd, 1) := by decide +kernel
theorem d_F_times_668 : decode b_F_times 668 = .ok (.lastore, 1) := by decide +kernel
theorem d_F_times_669 : decode b_F_times 669 = .ok (.aload_n 0, 1) := by decide +kernel
theorem d_F_times_670 : decode b_F_times 670 = .ok (.bipush 8, 2) := by decide +kernel
theorem d_F_times_672 : decode b_F_times 672 = .ok (.lload_n 3, 1) := by decide +kernel
theorem d_F_times_673 : decode b_F_times 673 = .ok (.lload 39, 2) := by decide +kernel
theorem d_F_times_675 : decode b_F_times 675 = .ok (.lmul, 1) := by decide +kernel
theorem d_F_times_676 : decode b_F_times 676 = .ok (.lload 43, 2) := by decide +kernel
theorem d_F_times_678 : decode b_F_times 678 = .ok (.lload 37, 2) := by decide +kernel
theorem d_F_times_680 : decode b_F_times 680 = .ok (.lmul, 1) := by decide +kernel
theorem d_F_times_681 : decode b_F_times 681 = .ok (.ladd, 1) := by decide +kernel
theorem d_F_times_682 : decode b_F_times 682 = .ok (.lload 7, 2) := by decide +kernel
theorem d_F_times_684 : decode b_F_times 684 = .ok (.lload 35, 2) := by decide +kernel
theorem d_F_times_686 : decode b_F_times 686 = .ok (.lmul, 1) := by decide +kernel
theorem d_F_times_687 : decode b_F_times 687 = .ok (.ladd, 1) := by decide +kernel
theorem d_F_times_688 : decode b_F_times 688 = .ok (.lload 45, 2) := by decide +kernel
theorem d_F_times_690 : decode b_F_times 690 = .ok (.lload 33, 2) := by decide +kernel
theorem d_F_times_692 : decode b_F_times 692 = .ok (.lmul, 1) := by decide +kernel
theorem d_F_times_693 : decode b_F_times 693 = .ok (.ladd, 1) := by decide +kernel
theorem d_F_times_694 : decode b_F_times 694 = .ok (.lload 11, 2) := by decide +kernel
theorem d_F_times_696 : decode b_F_times 696 = .ok (.lload 31, 2) := by decide +kernel
theorem d_F_times_698 : decode b_F_times 698 = .ok (.lmul, 1) := by decide +kernel
theorem d_F_times_699 : decode b_F_times 699 = .ok (.ladd, 1) := by decide +kernel
theorem d_F_times_700 : decode b_F_times 700 = .ok (.lload 47, 2) := by decide +kernel
theorem d_F_times_702 : decode b_F_times 702 = .ok (.lload 29, 2) := by decide +kernel
theorem d_F_times_704 : decode b_F_times 704 = .ok (.lmul, 1) := by decide +kernel
theorem d_F_times_705 : decode b_F_times 705 = .ok (.ladd, 1) := by decide +kernel
theorem d_F_times_706 : decode b_F_times 706 = .ok (.lload 15, 2) := by decide +kernel
theorem d_F_times_708 : decode b_F_times 708 = .ok (.lload 27, 2) := by decide +kernel
theorem d_F_times_710 : decode b_F_times 710 = .ok (.lmul, 1) := by decide +kernel
theorem d_F_times_711 : decode b_F_times 711 = .ok (.ladd, 1) := by decide +kernel
theorem d_F_times_712 : decode b_F_times 712 = .ok (.lload 49, 2) := by decide +kernel
theorem d_F_times_714 : decode b_F_times 714 = .ok (.lload 25, 2) := by decide +kernel
theorem d_F_times_716 : decode b_F_times 716 = .ok (.lmul, 1) := by decide +kernel
theorem d_F_times_717 : decode b_F_times 717 = .ok (.ladd, 1) := by decide +kernel
theorem d_F_times_718 : decode b_F_times 718 = .ok (.lload 19, 2) := by decide +kernel
theorem d_F_times_720 : decode b_F_times 720 = .ok (.lload 23, 2) := by decide +kernel
theorem d_F_times_722 : decode b_F_times 722 = .ok (.lmul, 1) := by decide +kernel
theorem d_F_times_723 : decode b_F_times 723 = .ok (.ladd, 1) := by decide +kernel
theorem d_F_times_724 : decode b_F_times 724 = .ok (.ldc2_w 51, 3) := by decide +kernel
theorem d_F_times_727 : decode b_F_times 727 = .ok (.lload 51, 2) := by decide +kernel
theorem d_F_times_729 : decode b_F_times 729 = .ok (.lload 41, 2) := by decide +kernel
theorem d_F_times_731 : decode b_F_times 731 = .ok (.lmul, 1) := by decide +kernel
theorem d_F_times_732 : decode b_F_times 732 = .ok (.lmul, 1) := by decide +kernel
theorem d_F_times_733 : decode b_F_times 733 = .ok (.ladd, 1) := by decide +kernel
theorem d_F_times_734 : decode b_F_times 734 = .ok (.lastore, 1) := by decide +kernel
theorem d_F_times_735 : decode b_F_times 735 = .ok (.aload_n 0, 1) := by decide +kernel
theorem d_F_times_736 : decode b_F_times 736 = .ok (.bipush 9, 2) := by decide +kernel
theorem d_F_times_738 : decode b_F_times 738 = .ok (.lload_n 3, 1) := by decide +kernel
theorem d_F_times_739 : decode b_F_times 739 = .ok (.lload 41, 2) := by decide +kernel
theorem d_F_times_741 : decode b_F_times 741 = .ok (.lmul, 1) := by decide +kernel
theorem d_F_times_742 : decode b_F_times 742 = .ok (.lload 5, 2) := by decide +kernel
theorem d_F_times_744 : decode b_F_times 744 = .ok (.lload 39, 2) := by decide +kernel
theorem d_F_times_746 : decode b_F_times 746 = .ok (.lmul, 1) := by decide +kernel
theorem d_F_times_747 : decode b_F_times 747 = .ok (.ladd, 1) := by decide +kernel
theorem d_F_times_748 : decode b_F_times 748 = .ok (.lload 7, 2) := by decide +kernel
theorem d_F_times_750 : decode b_F_times 750 = .ok (.lload 37, 2) := by decide +kernel
theorem d_F_times_752 : decode b_F_times 752 = .ok (.lmul, 1) := by decide +kernel
theorem d_F_times_753 : decode b_F_times 753 = .ok (.ladd, 1) := by decide +kernel
theorem d_F_times_754 : decode b_F_times 754 = .ok (.lload 9, 2) := by decide +kernel
theorem d_F_times_756 : decode b_F_times 756 = .ok (.lload 35, 2) := by decide +kernel
theorem d_F_times_758 : decode b_F_times 758 = .ok (.lmul, 1) := by decide +kernel
theorem d_F_times_759 : decode b_F_times 759 = .ok (.ladd, 1) := by decide +kernel
theorem d_F_times_760 : decode b_F_times 760 = .ok (.lload 11, 2) := by decide +kernel
theorem d_F_times_762 : decode b_F_times 762 = .ok (.lload 33, 2) := by decide +kernel
theorem d_F_times_764 : decode b_F_times 764 = .ok (.lmul, 1) := by decide +kernel
theorem d_F_times_765 : decode b_F_times 765 = .ok (.ladd, 1) := by decide +kernel
theorem d_F_times_766 : decode b_F_times 766 = .ok (.lload 13, 2) := by decide +kernel
theorem d_F_times_768 : decode b_F_times 768 = .ok (.lload 31, 2) := by decide +kernel
theorem d_F_times_770 : decode b_F_times 770 = .ok (.lmul, 1) := by decide +kernel
theorem d_F_times_771 : decode b_F_times 771 = .ok (.ladd, 1) := by decide +kernel
theorem d_F_times_772 : decode b_F_times 772 = .ok (.lload 15, 2) := by decide +kernel
theorem d_F_times_774 : decode b_F_times 774 = .ok (.lload 29, 2) := by decide +kernel
theorem d_F_times_776 : decode b_F_times 776 = .ok (.lmul, 1) := by decide +kernel
theorem d_F_times_777 : decode b_F_times 777 = .ok (.ladd, 1) := by decide +kernel
theorem d_F_times_778 : decode b_F_times 778 = .ok (.lload 17, 2) := by decide +kernel
theorem d_F_times_780 : decode b_F_times 780 = .ok (.lload 27, 2) := by decide +kernel
theorem d_F_times_782 : decode b_F_times 782 = .ok (.lmul, 1) := by decide +kernel
theorem d_F_times_783 : decode b_F_times 783 = .ok (.ladd, 1) := by decide +kernel
theorem d_F_times_784 : decode b_F_times 784 = .ok (.lload 19, 2) := by decide +kernel
theorem d_F_times_786 : decode b_F_times 786 = .ok (.lload 25, 2) := by decide +kernel
theorem d_F_times_788 : decode b_F_times 788 = .ok (.lmul, 1) := by decide +kernel
theorem d_F_times_789 : decode b_F_times 789 = .ok (.ladd, 1) := by decide +kernel
theorem d_F_times_790 : decode b_F_times 790 = .ok (.lload 21, 2) := by decide +kernel
theorem d_F_times_792 : decode b_F_times 792 = .ok (.lload 23, 2) := by decide +kernel
theorem d_F_times_794 : decode b_F_times 794 = .ok (.lmul, 1) := by decide +kernel
theorem d_F_times_795 : decode b_F_times 795 = .ok (.ladd, 1) := by decide +kernel
theorem d_F_times_796 : decode b_F_times 796 = .ok (.lastore, 1) := by decide +kernel
theorem d_F_times_797 : decode b_F_times 797 = .ok (.aload_n 0, 1) := by decide +kernel
theorem d_F_times_798 : decode b_F_times 798 = .ok (.invokestatic 45, 3) := by decide +kernel
theorem d_F_times_801 : decode b_F_times 801 = .ok (.return_, 1) := by decide +kernel
