theorem d_L_law_563 : decode b_L_law 563 = .ok (.aload_n 1, 1) := by decide +kernel
theorem d_L_law_564 : decode b_L_law 564 = .ok (.aload_n 0, 1) := by decide +kernel
theorem d_L_law_565 : decode b_L_law 565 = .ok (.iload 4, 2) := by decide +kernel
theorem d_L_law_567 : decode b_L_law 567 = .ok (.iconst 1, 1) := by decide +kernel
theorem d_L_law_568 : decode b_L_law 568 = .ok (.iadd, 1) := by decide +kernel
theorem d_L_law_569 : decode b_L_law 569 = .ok (.iaload, 1) := by decide +kernel
theorem d_L_law_570 : decode b_L_law 570 = .ok (.aload_n 0, 1) := by decide +kernel
theorem d_L_law_571 : decode b_L_law 571 = .ok (.iload 4, 2) := by decide +kernel
theorem d_L_law_573 : decode b_L_law 573 = .ok (.iconst 2, 1) := by decide +kernel
theorem d_L_law_574 : decode b_L_law 574 = .ok (.iadd, 1) := by decide +kernel
theorem d_L_law_575 : decode b_L_law 575 = .ok (.iaload, 1) := by decide +kernel
theorem d_L_law_576 : decode b_L_law 576 = .ok (.aload_n 3, 1) := by decide +kernel
theorem d_L_law_577 : decode b_L_law 577 = .ok (.invokestatic 97, 3) := by decide +kernel
theorem d_L_law_580 : decode b_L_law 580 = .ok (.istore 5, 2) := by decide +kernel
theorem d_L_law_582 : decode b_L_law 582 = .ok (.aload_n 2, 1) := by decide +kernel
theorem d_L_law_583 : decode b_L_law 583 = .ok (.aload_n 0, 1) := by decide +kernel
theorem d_L_law_584 : decode b_L_law 584 = .ok (.iload 4, 2) := by decide +kernel
theorem d_L_law_586 : decode b_L_law 586 = .ok (.iconst 1, 1) := by decide +kernel
theorem d_L_law_587 : decode b_L_law 587 = .ok (.iadd, 1) := by decide +kernel
theorem d_L_law_588 : decode b_L_law 588 = .ok (.iaload, 1) := by decide +kernel
theorem d_L_law_589 : decode b_L_law 589 = .ok (.aload_n 0, 1) := by decide +kernel
theorem d_L_law_590 : decode b_L_law 590 = .ok (.iload 4, 2) := by decide +kernel
theorem d_L_law_592 : decode b_L_law 592 = .ok (.iconst 2, 1) := by decide +kernel
theorem d_L_law_593 : decode b_L_law 593 = .ok (.iadd, 1) := by decide +kernel
theorem d_L_law_594 : decode b_L_law 594 = .ok (.iaload, 1) := by decide +kernel
theorem d_L_law_595 : decode b_L_law 595 = .ok (.invokevirtual 100, 3) := by decide +kernel
theorem d_L_law_598 : decode b_L_law 598 = .ok (.istore 6, 2) := by decide +kernel
theorem d_L_law_600 : decode b_L_law 600 = .ok (.aload_n 2, 1) := by decide +kernel
theorem d_L_law_601 : decode b_L_law 601 = .ok (.invokevirtual 65, 3) := by decide +kernel
theorem d_L_law_604 : decode b_L_law 604 = .ok (.iload 5, 2) := by decide +kernel
theorem d_L_law_606 : decode b_L_law 606 = .ok (.if_icmp .eq 5, 3) := by decide +kernel
theorem d_L_law_609 : decode b_L_law 609 = .ok (.iconst 0, 1) := by decide +kernel
theorem d_L_law_610 : decode b_L_law 610 = .ok (.ireturn, 1) := by decide +kernel
theorem d_L_law_611 : decode b_L_law 611 = .ok (.iload 5, 2) := by decide +kernel
theorem d_L_law_613 : decode b_L_law 613 = .ok (.ifCond .ne 15, 3) := by decide +kernel
theorem d_L_law_616 : decode b_L_law 616 = .ok (.aload_n 3, 1) := by decide +kernel
theorem d_L_law_617 : decode b_L_law 617 = .ok (.iconst 0, 1) := by decide +kernel
theorem d_L_law_618 : decode b_L_law 618 = .ok (.laload, 1) := by decide +kernel
theorem d_L_law_619 : decode b_L_law 619 = .ok (.iload 6, 2) := by decide +kernel
theorem d_L_law_621 : decode b_L_law 621 = .ok (.i2l, 1) := by decide +kernel
theorem d_L_law_622 : decode b_L_law 622 = .ok (.lcmp, 1) := by decide +kernel
theorem d_L_law_623 : decode b_L_law 623 = .ok (.ifCond .eq 5, 3) := by decide +kernel
theorem d_L_law_626 : decode b_L_law 626 = .ok (.iconst 0, 1) := by decide +kernel
theorem d_L_law_627 : decode b_L_law 627 = .ok (.ireturn, 1) := by decide +kernel
theorem d_L_law_628 : decode b_L_law 628 = .ok (.goto 84, 3) := by decide +kernel
theorem d_L_law_631 : decode b_L_law 631 = .ok (.aload_n 1, 1) := by decide +kernel
theorem d_L_law_632 : decode b_L_law 632 = .ok (.aload_n 0, 1) := by decide +kernel
theorem d_L_law_633 : decode b_L_law 633 = .ok (.iload 4, 2) := by decide +kernel
theorem d_L_law_635 : decode b_L_law 635 = .ok (.iconst 1, 1) := by decide +kernel
theorem d_L_law_636 : decode b_L_law 636 = .ok (.iadd, 1) := by decide +kernel
theorem d_L_law_637 : decode b_L_law 637 = .ok (.iaload, 1) := by decide +kernel
theorem d_L_law_638 : decode b_L_law 638 = .ok (.aload_n 3, 1) := by decide +kernel
theorem d_L_law_639 : decode b_L_law 639 = .ok (.invokestatic 101, 3) := by decide +kernel
theorem d_L_law_642 : decode b_L_law 642 = .ok (.istore 5, 2) := by decide +kernel
theorem d_L_law_644 : decode b_L_law 644 = .ok (.aload_n 2, 1) := by decide +kernel
theorem d_L_law_645 : decode b_L_law 645 = .ok (.aload_n 0, 1) := by decide +kernel
theorem d_L_law_646 : decode b_L_law 646 = .ok (.iload 4, 2) := by decide +kernel
theorem d_L_law_648 : decode b_L_law 648 = .ok (.iconst 1, 1) := by decide +kernel
theorem d_L_law_649 : decode b_L_law 649 = .ok (.iadd, 1) := by decide +kernel
theorem d_L_law_650 : decode b_L_law 650 = .ok (.iaload, 1) := by decide +kernel
theorem d_L_law_651 : decode b_L_law 651 = .ok (.invokevirtual 103, 3) := by decide +kernel
theorem d_L_law_654 : decode b_L_law 654 = .ok (.istore 6, 2) := by decide +kernel
theorem d_L_law_656 : decode b_L_law 656 = .ok (.aload_n 2, 1) := by decide +kernel
theorem d_L_law_657 : decode b_L_law 657 = .ok (.invokevirtual 65, 3) := by decide +kernel
theorem d_L_law_660 : decode b_L_law 660 = .ok (.iload 5, 2) := by decide +kernel
theorem d_L_law_662 : decode b_L_law 662 = .ok (.if_icmp .eq 5, 3) := by decide +kernel
theorem d_L_law_665 : decode b_L_law 665 = .ok (.iconst 0, 1) := by decide +kernel
theorem d_L_law_666 : decode b_L_law 666 = .ok (.ireturn, 1) := by decide +kernel
theorem d_L_law_667 : decode b_L_law 667 = .ok (.iload 5, 2) := by decide +kernel
theorem d_L_law_669 : decode b_L_law 669 = .ok (.ifCond .ne 15, 3) := by decide +kernel
theorem d_L_law_672 : decode b_L_law 672 = .ok (.aload_n 3, 1) := by decide +kernel
theorem d_L_law_673 : decode b_L_law 673 = .ok (.iconst 0, 1) := by decide +kernel
theorem d_L_law_674 : decode b_L_law 674 = .ok (.laload, 1) := by decide +kernel
theorem d_L_law_675 : decode b_L_law 675 = .ok (.iload 6, 2) := by decide +kernel
theorem d_L_law_677 : decode b_L_law 677 = .ok (.i2l, 1) := by decide +kernel
theorem d_L_law_678 : decode b_L_law 678 = .ok (.lcmp, 1) := by decide +kernel
theorem d_L_law_679 : decode b_L_law 679 = .ok (.ifCond .eq 5, 3) := by decide +kernel
theorem d_L_law_682 : decode b_L_law 682 = .ok (.iconst 0, 1) := by decide +kernel
theorem d_L_law_683 : decode b_L_law 683 = .ok (.ireturn, 1) := by decide +kernel
theorem d_L_law_684 : decode b_L_law 684 = .ok (.goto 28, 3) := by decide +kernel
theorem d_L_law_687 : decode b_L_law 687 = .ok (.aload_n 1, 1) := by decide +kernel
theorem d_L_law_688 : decode b_L_law 688 = .ok (.aload_n 0, 1) := by decide +kernel
theorem d_L_law_689 : decode b_L_law 689 = .ok (.iload 4, 2) := by decide +kernel
theorem d_L_law_691 : decode b_L_law 691 = .ok (.iconst 1, 1) := by decide +kernel
theorem d_L_law_692 : decode b_L_law 692 = .ok (.iadd, 1) := by decide +kernel
theorem d_L_law_693 : decode b_L_law 693 = .ok (.iaload, 1) := by decide +kernel
theorem d_L_law_694 : decode b_L_law 694 = .ok (.invokevirtual 104, 3) := by decide +kernel
theorem d_L_law_697 : decode b_L_law 697 = .ok (.aload_n 2, 1) := by decide +kernel
theorem d_L_law_698 : decode b_L_law 698 = .ok (.aload_n 0, 1) := by decide +kernel
theorem d_L_law_699 : decode b_L_law 699 = .ok (.iload 4, 2) := by decide +kernel
theorem d_L_law_701 : decode b_L_law 701 = .ok (.iconst 1, 1) := by decide +kernel
theorem d_L_law_702 : decode b_L_law 702 = .ok (.iadd, 1) := by decide +kernel
theorem d_L_law_703 : decode b_L_law 703 = .ok (.iaload, 1) := by decide +kernel
theorem d_L_law_704 : decode b_L_law 704 = .ok (.invokevirtual 107, 3) := by decide +kernel
theorem d_L_law_707 : decode b_L_law 707 = .ok (.if_icmp .eq 5, 3) := by decide +kernel
theorem d_L_law_710 : decode b_L_law 710 = .ok (.iconst 0, 1) := by decide +kernel
theorem d_L_law_711 : decode b_L_law 711 = .ok (.ireturn, 1) := by decide +kernel
theorem d_L_law_712 : decode b_L_law 712 = .ok (.iinc 4 6, 3) := by decide +kernel
theorem d_L_law_715 : decode b_L_law 715 = .ok (.goto (-692), 3) := by decide +kernel
theorem d_L_law_718 : decode b_L_law 718 = .ok (.iconst 1, 1) := by decide +kernel
theorem d_L_law_719 : decode b_L_law 719 = .ok (.ireturn, 1) := by decide +kernel
