theorem d_M_init_432 : decode b_M_init 432 = .ok (.newarray .byte, 2) := by decide +kernel
theorem d_M_init_434 : decode b_M_init 434 = .ok (.putfield 159, 3) := by decide +kernel
theorem d_M_init_437 : decode b_M_init 437 = .ok (.aload_n 0, 1) := by decide +kernel
theorem d_M_init_438 : decode b_M_init 438 = .ok (.invokevirtual 162, 3) := by decide +kernel
theorem d_M_init_441 : decode b_M_init 441 = .ok (.iconst 0, 1) := by decide +kernel
theorem d_M_init_442 : decode b_M_init 442 = .ok (.istore_n 1, 1) := by decide +kernel
theorem d_M_init_443 : decode b_M_init 443 = .ok (.iload_n 1, 1) := by decide +kernel
theorem d_M_init_444 : decode b_M_init 444 = .ok (.bipush 16, 2) := by decide +kernel
theorem d_M_init_446 : decode b_M_init 446 = .ok (.if_icmp .ge 40, 3) := by decide +kernel
theorem d_M_init_449 : decode b_M_init 449 = .ok (.aload_n 0, 1) := by decide +kernel
theorem d_M_init_450 : decode b_M_init 450 = .ok (.getfield 27, 3) := by decide +kernel
theorem d_M_init_453 : decode b_M_init 453 = .ok (.iload_n 1, 1) := by decide +kernel
theorem d_M_init_454 : decode b_M_init 454 = .ok (.iload_n 1, 1) := by decide +kernel
theorem d_M_init_455 : decode b_M_init 455 = .ok (.ifCond .ne 9, 3) := by decide +kernel
theorem d_M_init_458 : decode b_M_init 458 = .ok (.ldc2_w 165, 3) := by decide +kernel
theorem d_M_init_461 : decode b_M_init 461 = .ok (.goto 18, 3) := by decide +kernel
theorem d_M_init_464 : decode b_M_init 464 = .ok (.iload_n 1, 1) := by decide +kernel
theorem d_M_init_465 : decode b_M_init 465 = .ok (.bipush 15, 2) := by decide +kernel
theorem d_M_init_467 : decode b_M_init 467 = .ok (.if_icmp .ne 9, 3) := by decide +kernel
theorem d_M_init_470 : decode b_M_init 470 = .ok (.ldc2_w 167, 3) := by decide +kernel
theorem d_M_init_473 : decode b_M_init 473 = .ok (.goto 6, 3) := by decide +kernel
theorem d_M_init_476 : decode b_M_init 476 = .ok (.ldc2_w 169, 3) := by decide +kernel
theorem d_M_init_479 : decode b_M_init 479 = .ok (.lastore, 1) := by decide +kernel
theorem d_M_init_480 : decode b_M_init 480 = .ok (.iinc 1 1, 3) := by decide +kernel
theorem d_M_init_483 : decode b_M_init 483 = .ok (.goto (-40), 3) := by decide +kernel
theorem d_M_init_486 : decode b_M_init 486 = .ok (.aload_n 0, 1) := by decide +kernel
theorem d_M_init_487 : decode b_M_init 487 = .ok (.getfield 31, 3) := by decide +kernel
theorem d_M_init_490 : decode b_M_init 490 = .ok (.aload_n 0, 1) := by decide +kernel
theorem d_M_init_491 : decode b_M_init 491 = .ok (.getfield 27, 3) := by decide +kernel
theorem d_M_init_494 : decode b_M_init 494 = .ok (.aload_n 0, 1) := by decide +kernel
theorem d_M_init_495 : decode b_M_init 495 = .ok (.getfield 70, 3) := by decide +kernel
theorem d_M_init_498 : decode b_M_init 498 = .ok (.invokestatic 171, 3) := by decide +kernel
theorem d_M_init_501 : decode b_M_init 501 = .ok (.iconst 0, 1) := by decide +kernel
theorem d_M_init_502 : decode b_M_init 502 = .ok (.istore_n 1, 1) := by decide +kernel
theorem d_M_init_503 : decode b_M_init 503 = .ok (.iload_n 1, 1) := by decide +kernel
theorem d_M_init_504 : decode b_M_init 504 = .ok (.bipush 16, 2) := by decide +kernel
theorem d_M_init_506 : decode b_M_init 506 = .ok (.if_icmp .ge 44, 3) := by decide +kernel
theorem d_M_init_509 : decode b_M_init 509 = .ok (.aload_n 0, 1) := by decide +kernel
theorem d_M_init_510 : decode b_M_init 510 = .ok (.getfield 34, 3) := by decide +kernel
theorem d_M_init_513 : decode b_M_init 513 = .ok (.iload_n 1, 1) := by decide +kernel
theorem d_M_init_514 : decode b_M_init 514 = .ok (.iload_n 1, 1) := by decide +kernel
theorem d_M_init_515 : decode b_M_init 515 = .ok (.bipush 8, 2) := by decide +kernel
theorem d_M_init_517 : decode b_M_init 517 = .ok (.if_icmp .ge 13, 3) := by decide +kernel
theorem d_M_init_520 : decode b_M_init 520 = .ok (.aload_n 0, 1) := by decide +kernel
theorem d_M_init_521 : decode b_M_init 521 = .ok (.getfield 120, 3) := by decide +kernel
theorem d_M_init_524 : decode b_M_init 524 = .ok (.iload_n 1, 1) := by decide +kernel
theorem d_M_init_525 : decode b_M_init 525 = .ok (.iaload, 1) := by decide +kernel
theorem d_M_init_526 : decode b_M_init 526 = .ok (.i2l, 1) := by decide +kernel
theorem d_M_init_527 : decode b_M_init 527 = .ok (.goto 16, 3) := by decide +kernel
theorem d_M_init_530 : decode b_M_init 530 = .ok (.iload_n 1, 1) := by decide +kernel
theorem d_M_init_531 : decode b_M_init 531 = .ok (.bipush 15, 2) := by decide +kernel
theorem d_M_init_533 : decode b_M_init 533 = .ok (.if_icmp .ne 9, 3) := by decide +kernel
theorem d_M_init_536 : decode b_M_init 536 = .ok (.ldc2_w 175, 3) := by decide +kernel
theorem d_M_init_539 : decode b_M_init 539 = .ok (.goto 4, 3) := by decide +kernel
theorem d_M_init_542 : decode b_M_init 542 = .ok (.lconst 0, 1) := by decide +kernel
theorem d_M_init_543 : decode b_M_init 543 = .ok (.lastore, 1) := by decide +kernel
theorem d_M_init_544 : decode b_M_init 544 = .ok (.iinc 1 1, 3) := by decide +kernel
theorem d_M_init_547 : decode b_M_init 547 = .ok (.goto (-44), 3) := by decide +kernel
theorem d_M_init_550 : decode b_M_init 550 = .ok (.aload_n 0, 1) := by decide +kernel
theorem d_M_init_551 : decode b_M_init 551 = .ok (.getfield 37, 3) := by decide +kernel
theorem d_M_init_554 : decode b_M_init 554 = .ok (.aload_n 0, 1) := by decide +kernel
theorem d_M_init_555 : decode b_M_init 555 = .ok (.getfield 34, 3) := by decide +kernel
theorem d_M_init_558 : decode b_M_init 558 = .ok (.aload_n 0, 1) := by decide +kernel
theorem d_M_init_559 : decode b_M_init 559 = .ok (.getfield 70, 3) := by decide +kernel
theorem d_M_init_562 : decode b_M_init 562 = .ok (.invokestatic 171, 3) := by decide +kernel
theorem d_M_init_565 : decode b_M_init 565 = .ok (.aload_n 0, 1) := by decide +kernel
theorem d_M_init_566 : decode b_M_init 566 = .ok (.getfield 88, 3) := by decide +kernel
theorem d_M_init_569 : decode b_M_init 569 = .ok (.iconst 1, 1) := by decide +kernel
theorem d_M_init_570 : decode b_M_init 570 = .ok (.invokestatic 177, 3) := by decide +kernel
theorem d_M_init_573 : decode b_M_init 573 = .ok (.aload_n 0, 1) := by decide +kernel
theorem d_M_init_574 : decode b_M_init 574 = .ok (.getfield 70, 3) := by decide +kernel
theorem d_M_init_577 : decode b_M_init 577 = .ok (.iconst 0, 1) := by decide +kernel
theorem d_M_init_578 : decode b_M_init 578 = .ok (.invokestatic 177, 3) := by decide +kernel
theorem d_M_init_581 : decode b_M_init 581 = .ok (.aload_n 0, 1) := by decide +kernel
theorem d_M_init_582 : decode b_M_init 582 = .ok (.getfield 73, 3) := by decide +kernel
theorem d_M_init_585 : decode b_M_init 585 = .ok (.iconst 0, 1) := by decide +kernel
theorem d_M_init_586 : decode b_M_init 586 = .ok (.invokestatic 177, 3) := by decide +kernel
theorem d_M_init_589 : decode b_M_init 589 = .ok (.aload_n 0, 1) := by decide +kernel
theorem d_M_init_590 : decode b_M_init 590 = .ok (.getfield 70, 3) := by decide +kernel
theorem d_M_init_593 : decode b_M_init 593 = .ok (.iconst 0, 1) := by decide +kernel
theorem d_M_init_594 : decode b_M_init 594 = .ok (.ldc2_w 181, 3) := by decide +kernel
theorem d_M_init_597 : decode b_M_init 597 = .ok (.lastore, 1) := by decide +kernel
theorem d_M_init_598 : decode b_M_init 598 = .ok (.aload_n 0, 1) := by decide +kernel
theorem d_M_init_599 : decode b_M_init 599 = .ok (.getfield 70, 3) := by decide +kernel
theorem d_M_init_602 : decode b_M_init 602 = .ok (.iconst 1, 1) := by decide +kernel
theorem d_M_init_603 : decode b_M_init 603 = .ok (.lconst 1, 1) := by decide +kernel
theorem d_M_init_604 : decode b_M_init 604 = .ok (.lastore, 1) := by decide +kernel
theorem d_M_init_605 : decode b_M_init 605 = .ok (.aload_n 0, 1) := by decide +kernel
theorem d_M_init_606 : decode b_M_init 606 = .ok (.getfield 73, 3) := by decide +kernel
theorem d_M_init_609 : decode b_M_init 609 = .ok (.iconst 0, 1) := by decide +kernel
theorem d_M_init_610 : decode b_M_init 610 = .ok (.ldc2_w 183, 3) := by decide +kernel
theorem d_M_init_613 : decode b_M_init 613 = .ok (.lastore, 1) := by decide +kernel
theorem d_M_init_614 : decode b_M_init 614 = .ok (.aload_n 0, 1) := by decide +kernel
theorem d_M_init_615 : decode b_M_init 615 = .ok (.getfield 73, 3) := by decide +kernel
theorem d_M_init_618 : decode b_M_init 618 = .ok (.iconst 1, 1) := by decide +kernel
theorem d_M_init_619 : decode b_M_init 619 = .ok (.lconst 1, 1) := by decide +kernel
theorem d_M_init_620 : decode b_M_init 620 = .ok (.lastore, 1) := by decide +kernel
theorem d_M_init_621 : decode b_M_init 621 = .ok (.aload_n 0, 1) := by decide +kernel
theorem d_M_init_622 : decode b_M_init 622 = .ok (.aload_n 0, 1) := by decide +kernel
theorem d_M_init_623 : decode b_M_init 623 = .ok (.getfield 76, 3) := by decide +kernel
theorem d_M_init_626 : decode b_M_init 626 = .ok (.aload_n 0, 1) := by decide +kernel
theorem d_M_init_627 : decode b_M_init 627 = .ok (.getfield 73, 3) := by decide +kernel
theorem d_M_init_630 : decode b_M_init 630 = .ok (.aload_n 0, 1) := by decide +kernel
theorem d_M_init_631 : decode b_M_init 631 = .ok (.getfield 27, 3) := by decide +kernel
theorem d_M_init_634 : decode b_M_init 634 = .ok (.invokevirtual 185, 3) := by decide +kernel
theorem d_M_init_637 : decode b_M_init 637 = .ok (.aload_n 0, 1) := by decide +kernel
theorem d_M_init_638 : decode b_M_init 638 = .ok (.aload_n 0, 1) := by decide +kernel
theorem d_M_init_639 : decode b_M_init 639 = .ok (.getfield 40, 3) := by decide +kernel
theorem d_M_init_642 : decode b_M_init 642 = .ok (.aload_n 0, 1) := by decide +kernel
theorem d_M_init_643 : decode b_M_init 643 = .ok (.getfield 70, 3) := by decide +kernel
theorem d_M_init_646 : decode b_M_init 646 = .ok (.aload_n 0, 1) := by decide +kernel
theorem d_M_init_647 : decode b_M_init 647 = .ok (.getfield 76, 3) := by decide +kernel
theorem d_M_init_650 : decode b_M_init 650 = .ok (.aload_n 0, 1) := by decide +kernel
theorem d_M_init_651 : decode b_M_init 651 = .ok (.getfield 27, 3) := by decide +kernel
theorem d_M_init_654 : decode b_M_init 654 = .ok (.aload_n 0, 1) := by decide +kernel
theorem d_M_init_655 : decode b_M_init 655 = .ok (.getfield 31, 3) := by decide +kernel
theorem d_M_init_658 : decode b_M_init 658 = .ok (.invokevirtual 188, 3) := by decide +kernel
theorem d_M_init_661 : decode b_M_init 661 = .ok (.aload_n 0, 1) := by decide +kernel
theorem d_M_init_662 : decode b_M_init 662 = .ok (.getfield 73, 3) := by decide +kernel
theorem d_M_init_665 : decode b_M_init 665 = .ok (.iconst 0, 1) := by decide +kernel
theorem d_M_init_666 : decode b_M_init 666 = .ok (.invokestatic 177, 3) := by decide +kernel
theorem d_M_init_669 : decode b_M_init 669 = .ok (.aload_n 0, 1) := by decide +kernel
theorem d_M_init_670 : decode b_M_init 670 = .ok (.getfield 40, 3) := by decide +kernel
theorem d_M_init_673 : decode b_M_init 673 = .ok (.aload_n 0, 1) := by decide +kernel
theorem d_M_init_674 : decode b_M_init 674 = .ok (.getfield 73, 3) := by decide +kernel
theorem d_M_init_677 : decode b_M_init 677 = .ok (.aload_n 0, 1) := by decide +kernel
theorem d_M_init_678 : decode b_M_init 678 = .ok (.getfield 40, 3) := by decide +kernel
theorem d_M_init_681 : decode b_M_init 681 = .ok (.aload_n 0, 1) := by decide +kernel
theorem d_M_init_682 : decode b_M_init 682 = .ok (.getfield 27, 3) := by decide +kernel
theorem d_M_init_685 : decode b_M_init 685 = .ok (.invokestatic 192, 3) := by decide +kernel
theorem d_M_init_688 : decode b_M_init 688 = .ok (.aload_n 0, 1) := by decide +kernel
theorem d_M_init_689 : decode b_M_init 689 = .ok (.getfield 70, 3) := by decide +kernel
theorem d_M_init_692 : decode b_M_init 692 = .ok (.iconst 2, 1) := by decide +kernel
theorem d_M_init_693 : decode b_M_init 693 = .ok (.invokestatic 177, 3) := by decide +kernel
theorem d_M_init_696 : decode b_M_init 696 = .ok (.iconst 0, 1) := by decide +kernel
theorem d_M_init_697 : decode b_M_init 697 = .ok (.istore_n 1, 1) := by decide +kernel
theorem d_M_init_698 : decode b_M_init 698 = .ok (.iload_n 1, 1) := by decide +kernel
theorem d_M_init_699 : decode b_M_init 699 = .ok (.bipush 16, 2) := by decide +kernel
theorem d_M_init_701 : decode b_M_init 701 = .ok (.if_icmp .ge 40, 3) := by decide +kernel
theorem d_M_init_704 : decode b_M_init 704 = .ok (.aload_n 0, 1) := by decide +kernel
theorem d_M_init_705 : decode b_M_init 705 = .ok (.getfield 79, 3) := by decide +kernel
theorem d_M_init_708 : decode b_M_init 708 = .ok (.iload_n 1, 1) := by decide +kernel
theorem d_M_init_709 : decode b_M_init 709 = .ok (.iload_n 1, 1) := by decide +kernel
theorem d_M_init_710 : decode b_M_init 710 = .ok (.ifCond .ne 9, 3) := by decide +kernel
theorem d_M_init_713 : decode b_M_init 713 = .ok (.ldc2_w 196, 3) := by decide +kernel
theorem d_M_init_716 : decode b_M_init 716 = .ok (.goto 18, 3) := by decide +kernel
theorem d_M_init_719 : decode b_M_init 719 = .ok (.iload_n 1, 1) := by decide +kernel
theorem d_M_init_720 : decode b_M_init 720 = .ok (.bipush 15, 2) := by decide +kernel
theorem d_M_init_722 : decode b_M_init 722 = .ok (.if_icmp .ne 9, 3) := by decide +kernel
theorem d_M_init_725 : decode b_M_init 725 = .ok (.ldc2_w 198, 3) := by decide +kernel
theorem d_M_init_728 : decode b_M_init 728 = .ok (.goto 6, 3) := by decide +kernel
theorem d_M_init_731 : decode b_M_init 731 = .ok (.ldc2_w 169, 3) := by decide +kernel
theorem d_M_init_734 : decode b_M_init 734 = .ok (.lastore, 1) := by decide +kernel
theorem d_M_init_735 : decode b_M_init 735 = .ok (.iinc 1 1, 3) := by decide +kernel
theorem d_M_init_738 : decode b_M_init 738 = .ok (.goto (-40), 3) := by decide +kernel
theorem d_M_init_741 : decode b_M_init 741 = .ok (.aload_n 0, 1) := by decide +kernel
theorem d_M_init_742 : decode b_M_init 742 = .ok (.aload_n 0, 1) := by decide +kernel
theorem d_M_init_743 : decode b_M_init 743 = .ok (.getfield 43, 3) := by decide +kernel
theorem d_M_init_746 : decode b_M_init 746 = .ok (.aload_n 0, 1) := by decide +kernel
theorem d_M_init_747 : decode b_M_init 747 = .ok (.getfield 70, 3) := by decide +kernel
theorem d_M_init_750 : decode b_M_init 750 = .ok (.aload_n 0, 1) := by decide +kernel
theorem d_M_init_751 : decode b_M_init 751 = .ok (.getfield 79, 3) := by decide +kernel
theorem d_M_init_754 : decode b_M_init 754 = .ok (.invokevirtual 200, 3) := by decide +kernel
theorem d_M_init_757 : decode b_M_init 757 = .ok (.aload_n 0, 1) := by decide +kernel
theorem d_M_init_758 : decode b_M_init 758 = .ok (.getfield 70, 3) := by decide +kernel
theorem d_M_init_761 : decode b_M_init 761 = .ok (.iconst 5, 1) := by decide +kernel
theorem d_M_init_762 : decode b_M_init 762 = .ok (.invokestatic 177, 3) := by decide +kernel
theorem d_M_init_765 : decode b_M_init 765 = .ok (.aload_n 0, 1) := by decide +kernel
theorem d_M_init_766 : decode b_M_init 766 = .ok (.aload_n 0, 1) := by decide +kernel
theorem d_M_init_767 : decode b_M_init 767 = .ok (.getfield 76, 3) := by decide +kernel
theorem d_M_init_770 : decode b_M_init 770 = .ok (.aload_n 0, 1) := by decide +kernel
theorem d_M_init_771 : decode b_M_init 771 = .ok (.getfield 70, 3) := by decide +kernel
theorem d_M_init_774 : decode b_M_init 774 = .ok (.aload_n 0, 1) := by decide +kernel
theorem d_M_init_775 : decode b_M_init 775 = .ok (.getfield 27, 3) := by decide +kernel
theorem d_M_init_778 : decode b_M_init 778 = .ok (.invokevirtual 185, 3) := by decide +kernel
theorem d_M_init_781 : decode b_M_init 781 = .ok (.aload_n 0, 1) := by decide +kernel
theorem d_M_init_782 : decode b_M_init 782 = .ok (.getfield 70, 3) := by decide +kernel
theorem d_M_init_785 : decode b_M_init 785 = .ok (.iconst 4, 1) := by decide +kernel
theorem d_M_init_786 : decode b_M_init 786 = .ok (.invokestatic 177, 3) := by decide +kernel
theorem d_M_init_789 : decode b_M_init 789 = .ok (.aload_n 0, 1) := by decide +kernel
theorem d_M_init_790 : decode b_M_init 790 = .ok (.aload_n 0, 1) := by decide +kernel
theorem d_M_init_791 : decode b_M_init 791 = .ok (.getfield 49, 3) := by decide +kernel
theorem d_M_init_794 : decode b_M_init 794 = .ok (.aload_n 0, 1) := by decide +kernel
theorem d_M_init_795 : decode b_M_init 795 = .ok (.getfield 70, 3) := by decide +kernel
theorem d_M_init_798 : decode b_M_init 798 = .ok (.aload_n 0, 1) := by decide +kernel
theorem d_M_init_799 : decode b_M_init 799 = .ok (.getfield 76, 3) := by decide +kernel
theorem d_M_init_802 : decode b_M_init 802 = .ok (.aload_n 0, 1) := by decide +kernel
theorem d_M_init_803 : decode b_M_init 803 = .ok (.getfield 27, 3) := by decide +kernel
theorem d_M_init_806 : decode b_M_init 806 = .ok (.aload_n 0, 1) := by decide +kernel
theorem d_M_init_807 : decode b_M_init 807 = .ok (.getfield 31, 3) := by decide +kernel
theorem d_M_init_810 : decode b_M_init 810 = .ok (.invokevirtual 188, 3) := by decide +kernel
theorem d_M_init_813 : decode b_M_init 813 = .ok (.iconst 0, 1) := by decide +kernel
theorem d_M_init_814 : decode b_M_init 814 = .ok (.istore_n 1, 1) := by decide +kernel
theorem d_M_init_815 : decode b_M_init 815 = .ok (.iload_n 1, 1) := by decide +kernel
theorem d_M_init_816 : decode b_M_init 816 = .ok (.bipush 32, 2) := by decide +kernel
theorem d_M_init_818 : decode b_M_init 818 = .ok (.if_icmp .ge 32, 3) := by decide +kernel
theorem d_M_init_821 : decode b_M_init 821 = .ok (.aload_n 0, 1) := by decide +kernel
theorem d_M_init_822 : decode b_M_init 822 = .ok (.getfield 103, 3) := by decide +kernel
theorem d_M_init_825 : decode b_M_init 825 = .ok (.iload_n 1, 1) := by decide +kernel
theorem d_M_init_826 : decode b_M_init 826 = .ok (.aload_n 0, 1) := by decide +kernel
theorem d_M_init_827 : decode b_M_init 827 = .ok (.getfield 49, 3) := by decide +kernel
theorem d_M_init_830 : decode b_M_init 830 = .ok (.iload_n 1, 1) := by decide +kernel
theorem d_M_init_831 : decode b_M_init 831 = .ok (.iconst 2, 1) := by decide +kernel
theorem d_M_init_832 : decode b_M_init 832 = .ok (.idiv, 1) := by decide +kernel
theorem d_M_init_833 : decode b_M_init 833 = .ok (.laload, 1) := by decide +kernel
theorem d_M_init_834 : decode b_M_init 834 = .ok (.bipush 8, 2) := by decide +kernel
theorem d_M_init_836 : decode b_M_init 836 = .ok (.iload_n 1, 1) := by decide +kernel
theorem d_M_init_837 : decode b_M_init 837 = .ok (.iconst 2, 1) := by decide +kernel
theorem d_M_init_838 : decode b_M_init 838 = .ok (.irem, 1) := by decide +kernel
theorem d_M_init_839 : decode b_M_init 839 = .ok (.imul, 1) := by decide +kernel
theorem d_M_init_840 : decode b_M_init 840 = .ok (.lshr, 1) := by decide +kernel
theorem d_M_init_841 : decode b_M_init 841 = .ok (.l2i, 1) := by decide +kernel
theorem d_M_init_842 : decode b_M_init 842 = .ok (.i2b, 1) := by decide +kernel
theorem d_M_init_843 : decode b_M_init 843 = .ok (.bastore, 1) := by decide +kernel
theorem d_M_init_844 : decode b_M_init 844 = .ok (.iinc 1 1, 3) := by decide +kernel
theorem d_M_init_847 : decode b_M_init 847 = .ok (.goto (-32), 3) := by decide +kernel
theorem d_M_init_850 : decode b_M_init 850 = .ok (.aload_n 0, 1) := by decide +kernel
theorem d_M_init_851 : decode b_M_init 851 = .ok (.invokevirtual 203, 3) := by decide +kernel
theorem d_M_init_854 : decode b_M_init 854 = .ok (.pop, 1) := by decide +kernel
theorem d_M_init_855 : decode b_M_init 855 = .ok (.aload_n 0, 1) := by decide +kernel
theorem d_M_init_856 : decode b_M_init 856 = .ok (.getfield 46, 3) := by decide +kernel
theorem d_M_init_859 : decode b_M_init 859 = .ok (.aload_n 0, 1) := by decide +kernel
theorem d_M_init_860 : decode b_M_init 860 = .ok (.getfield 58, 3) := by decide +kernel
theorem d_M_init_863 : decode b_M_init 863 = .ok (.invokestatic 207, 3) := by decide +kernel
theorem d_M_init_866 : decode b_M_init 866 = .ok (.return_, 1) := by decide +kernel
