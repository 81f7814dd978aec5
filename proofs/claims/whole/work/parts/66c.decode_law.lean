theorem d_L_law_537 : decode c_L_law 537 = .ok (.iaload, 1) := by decide +kernel
theorem d_L_law_538 : decode c_L_law 538 = .ok (.i2l, 1) := by decide +kernel
theorem d_L_law_539 : decode c_L_law 539 = .ok (.ldc2_w 81, 3) := by decide +kernel
theorem d_L_law_542 : decode c_L_law 542 = .ok (.land, 1) := by decide +kernel
theorem d_L_law_543 : decode c_L_law 543 = .ok (.lor, 1) := by decide +kernel
theorem d_L_law_544 : decode c_L_law 544 = .ok (.invokevirtual 106, 3) := by decide +kernel
theorem d_L_law_547 : decode c_L_law 547 = .ok (.istore 6, 2) := by decide +kernel
theorem d_L_law_549 : decode c_L_law 549 = .ok (.aload_n 2, 1) := by decide +kernel
theorem d_L_law_550 : decode c_L_law 550 = .ok (.invokevirtual 87, 3) := by decide +kernel
theorem d_L_law_553 : decode c_L_law 553 = .ok (.iload 5, 2) := by decide +kernel
theorem d_L_law_555 : decode c_L_law 555 = .ok (.if_icmp .eq 5, 3) := by decide +kernel
theorem d_L_law_558 : decode c_L_law 558 = .ok (.iconst 0, 1) := by decide +kernel
theorem d_L_law_559 : decode c_L_law 559 = .ok (.ireturn, 1) := by decide +kernel
theorem d_L_law_560 : decode c_L_law 560 = .ok (.iload 5, 2) := by decide +kernel
theorem d_L_law_562 : decode c_L_law 562 = .ok (.ifCond .ne 22, 3) := by decide +kernel
theorem d_L_law_565 : decode c_L_law 565 = .ok (.aload_n 3, 1) := by decide +kernel
theorem d_L_law_566 : decode c_L_law 566 = .ok (.iconst 0, 1) := by decide +kernel
theorem d_L_law_567 : decode c_L_law 567 = .ok (.laload, 1) := by decide +kernel
theorem d_L_law_568 : decode c_L_law 568 = .ok (.iload 6, 2) := by decide +kernel
theorem d_L_law_570 : decode c_L_law 570 = .ok (.ifCond .eq 7, 3) := by decide +kernel
theorem d_L_law_573 : decode c_L_law 573 = .ok (.lconst 1, 1) := by decide +kernel
theorem d_L_law_574 : decode c_L_law 574 = .ok (.goto 4, 3) := by decide +kernel
theorem d_L_law_577 : decode c_L_law 577 = .ok (.lconst 0, 1) := by decide +kernel
theorem d_L_law_578 : decode c_L_law 578 = .ok (.lcmp, 1) := by decide +kernel
theorem d_L_law_579 : decode c_L_law 579 = .ok (.ifCond .eq 5, 3) := by decide +kernel
theorem d_L_law_582 : decode c_L_law 582 = .ok (.iconst 0, 1) := by decide +kernel
theorem d_L_law_583 : decode c_L_law 583 = .ok (.ireturn, 1) := by decide +kernel
theorem d_L_law_584 : decode c_L_law 584 = .ok (.goto 876, 3) := by decide +kernel
theorem d_L_law_587 : decode c_L_law 587 = .ok (.aload_n 1, 1) := by decide +kernel
theorem d_L_law_588 : decode c_L_law 588 = .ok (.aload_n 0, 1) := by decide +kernel
theorem d_L_law_589 : decode c_L_law 589 = .ok (.iload 4, 2) := by decide +kernel
theorem d_L_law_591 : decode c_L_law 591 = .ok (.iconst 1, 1) := by decide +kernel
theorem d_L_law_592 : decode c_L_law 592 = .ok (.iadd, 1) := by decide +kernel
theorem d_L_law_593 : decode c_L_law 593 = .ok (.iaload, 1) := by decide +kernel
theorem d_L_law_594 : decode c_L_law 594 = .ok (.aload_n 0, 1) := by decide +kernel
theorem d_L_law_595 : decode c_L_law 595 = .ok (.iload 4, 2) := by decide +kernel
theorem d_L_law_597 : decode c_L_law 597 = .ok (.iconst 2, 1) := by decide +kernel
theorem d_L_law_598 : decode c_L_law 598 = .ok (.iadd, 1) := by decide +kernel
theorem d_L_law_599 : decode c_L_law 599 = .ok (.iaload, 1) := by decide +kernel
theorem d_L_law_600 : decode c_L_law 600 = .ok (.aload_n 0, 1) := by decide +kernel
theorem d_L_law_601 : decode c_L_law 601 = .ok (.iload 4, 2) := by decide +kernel
theorem d_L_law_603 : decode c_L_law 603 = .ok (.iconst 3, 1) := by decide +kernel
theorem d_L_law_604 : decode c_L_law 604 = .ok (.iadd, 1) := by decide +kernel
theorem d_L_law_605 : decode c_L_law 605 = .ok (.iaload, 1) := by decide +kernel
theorem d_L_law_606 : decode c_L_law 606 = .ok (.aload_n 3, 1) := by decide +kernel
theorem d_L_law_607 : decode c_L_law 607 = .ok (.invokestatic 107, 3) := by decide +kernel
theorem d_L_law_610 : decode c_L_law 610 = .ok (.istore 5, 2) := by decide +kernel
theorem d_L_law_612 : decode c_L_law 612 = .ok (.aload_n 2, 1) := by decide +kernel
theorem d_L_law_613 : decode c_L_law 613 = .ok (.aload_n 0, 1) := by decide +kernel
theorem d_L_law_614 : decode c_L_law 614 = .ok (.iload 4, 2) := by decide +kernel
theorem d_L_law_616 : decode c_L_law 616 = .ok (.iconst 1, 1) := by decide +kernel
theorem d_L_law_617 : decode c_L_law 617 = .ok (.iadd, 1) := by decide +kernel
theorem d_L_law_618 : decode c_L_law 618 = .ok (.iaload, 1) := by decide +kernel
theorem d_L_law_619 : decode c_L_law 619 = .ok (.aload_n 0, 1) := by decide +kernel
theorem d_L_law_620 : decode c_L_law 620 = .ok (.iload 4, 2) := by decide +kernel
theorem d_L_law_622 : decode c_L_law 622 = .ok (.iconst 2, 1) := by decide +kernel
theorem d_L_law_623 : decode c_L_law 623 = .ok (.iadd, 1) := by decide +kernel
theorem d_L_law_624 : decode c_L_law 624 = .ok (.iaload, 1) := by decide +kernel
theorem d_L_law_625 : decode c_L_law 625 = .ok (.aload_n 0, 1) := by decide +kernel
theorem d_L_law_626 : decode c_L_law 626 = .ok (.iload 4, 2) := by decide +kernel
theorem d_L_law_628 : decode c_L_law 628 = .ok (.iconst 3, 1) := by decide +kernel
theorem d_L_law_629 : decode c_L_law 629 = .ok (.iadd, 1) := by decide +kernel
theorem d_L_law_630 : decode c_L_law 630 = .ok (.iaload, 1) := by decide +kernel
theorem d_L_law_631 : decode c_L_law 631 = .ok (.invokevirtual 110, 3) := by decide +kernel
theorem d_L_law_634 : decode c_L_law 634 = .ok (.lstore 6, 2) := by decide +kernel
theorem d_L_law_636 : decode c_L_law 636 = .ok (.aload_n 2, 1) := by decide +kernel
theorem d_L_law_637 : decode c_L_law 637 = .ok (.invokevirtual 87, 3) := by decide +kernel
theorem d_L_law_640 : decode c_L_law 640 = .ok (.iload 5, 2) := by decide +kernel
theorem d_L_law_642 : decode c_L_law 642 = .ok (.if_icmp .eq 5, 3) := by decide +kernel
theorem d_L_law_645 : decode c_L_law 645 = .ok (.iconst 0, 1) := by decide +kernel
theorem d_L_law_646 : decode c_L_law 646 = .ok (.ireturn, 1) := by decide +kernel
theorem d_L_law_647 : decode c_L_law 647 = .ok (.iload 5, 2) := by decide +kernel
theorem d_L_law_649 : decode c_L_law 649 = .ok (.ifCond .ne 14, 3) := by decide +kernel
theorem d_L_law_652 : decode c_L_law 652 = .ok (.aload_n 3, 1) := by decide +kernel
theorem d_L_law_653 : decode c_L_law 653 = .ok (.iconst 0, 1) := by decide +kernel
theorem d_L_law_654 : decode c_L_law 654 = .ok (.laload, 1) := by decide +kernel
theorem d_L_law_655 : decode c_L_law 655 = .ok (.lload 6, 2) := by decide +kernel
theorem d_L_law_657 : decode c_L_law 657 = .ok (.lcmp, 1) := by decide +kernel
theorem d_L_law_658 : decode c_L_law 658 = .ok (.ifCond .eq 5, 3) := by decide +kernel
theorem d_L_law_661 : decode c_L_law 661 = .ok (.iconst 0, 1) := by decide +kernel
theorem d_L_law_662 : decode c_L_law 662 = .ok (.ireturn, 1) := by decide +kernel
theorem d_L_law_663 : decode c_L_law 663 = .ok (.goto 797, 3) := by decide +kernel
theorem d_L_law_666 : decode c_L_law 666 = .ok (.aload_n 1, 1) := by decide +kernel
theorem d_L_law_667 : decode c_L_law 667 = .ok (.aload_n 0, 1) := by decide +kernel
theorem d_L_law_668 : decode c_L_law 668 = .ok (.iload 4, 2) := by decide +kernel
theorem d_L_law_670 : decode c_L_law 670 = .ok (.iconst 1, 1) := by decide +kernel
theorem d_L_law_671 : decode c_L_law 671 = .ok (.iadd, 1) := by decide +kernel
theorem d_L_law_672 : decode c_L_law 672 = .ok (.iaload, 1) := by decide +kernel
theorem d_L_law_673 : decode c_L_law 673 = .ok (.aload_n 0, 1) := by decide +kernel
theorem d_L_law_674 : decode c_L_law 674 = .ok (.iload 4, 2) := by decide +kernel
theorem d_L_law_676 : decode c_L_law 676 = .ok (.iconst 2, 1) := by decide +kernel
theorem d_L_law_677 : decode c_L_law 677 = .ok (.iadd, 1) := by decide +kernel
theorem d_L_law_678 : decode c_L_law 678 = .ok (.iaload, 1) := by decide +kernel
theorem d_L_law_679 : decode c_L_law 679 = .ok (.aload_n 3, 1) := by decide +kernel
theorem d_L_law_680 : decode c_L_law 680 = .ok (.invokestatic 111, 3) := by decide +kernel
theorem d_L_law_683 : decode c_L_law 683 = .ok (.istore 5, 2) := by decide +kernel
theorem d_L_law_685 : decode c_L_law 685 = .ok (.aload_n 2, 1) := by decide +kernel
theorem d_L_law_686 : decode c_L_law 686 = .ok (.aload_n 0, 1) := by decide +kernel
theorem d_L_law_687 : decode c_L_law 687 = .ok (.iload 4, 2) := by decide +kernel
theorem d_L_law_689 : decode c_L_law 689 = .ok (.iconst 1, 1) := by decide +kernel
theorem d_L_law_690 : decode c_L_law 690 = .ok (.iadd, 1) := by decide +kernel
theorem d_L_law_691 : decode c_L_law 691 = .ok (.iaload, 1) := by decide +kernel
theorem d_L_law_692 : decode c_L_law 692 = .ok (.aload_n 0, 1) := by decide +kernel
theorem d_L_law_693 : decode c_L_law 693 = .ok (.iload 4, 2) := by decide +kernel
theorem d_L_law_695 : decode c_L_law 695 = .ok (.iconst 2, 1) := by decide +kernel
theorem d_L_law_696 : decode c_L_law 696 = .ok (.iadd, 1) := by decide +kernel
theorem d_L_law_697 : decode c_L_law 697 = .ok (.iaload, 1) := by decide +kernel
theorem d_L_law_698 : decode c_L_law 698 = .ok (.invokevirtual 113, 3) := by decide +kernel
theorem d_L_law_701 : decode c_L_law 701 = .ok (.lstore 6, 2) := by decide +kernel
theorem d_L_law_703 : decode c_L_law 703 = .ok (.aload_n 2, 1) := by decide +kernel
theorem d_L_law_704 : decode c_L_law 704 = .ok (.invokevirtual 87, 3) := by decide +kernel
theorem d_L_law_707 : decode c_L_law 707 = .ok (.iload 5, 2) := by decide +kernel
theorem d_L_law_709 : decode c_L_law 709 = .ok (.if_icmp .eq 5, 3) := by decide +kernel
theorem d_L_law_712 : decode c_L_law 712 = .ok (.iconst 0, 1) := by decide +kernel
theorem d_L_law_713 : decode c_L_law 713 = .ok (.ireturn, 1) := by decide +kernel
theorem d_L_law_714 : decode c_L_law 714 = .ok (.iload 5, 2) := by decide +kernel
theorem d_L_law_716 : decode c_L_law 716 = .ok (.ifCond .ne 14, 3) := by decide +kernel
theorem d_L_law_719 : decode c_L_law 719 = .ok (.aload_n 3, 1) := by decide +kernel
theorem d_L_law_720 : decode c_L_law 720 = .ok (.iconst 0, 1) := by decide +kernel
theorem d_L_law_721 : decode c_L_law 721 = .ok (.laload, 1) := by decide +kernel
theorem d_L_law_722 : decode c_L_law 722 = .ok (.lload 6, 2) := by decide +kernel
theorem d_L_law_724 : decode c_L_law 724 = .ok (.lcmp, 1) := by decide +kernel
theorem d_L_law_725 : decode c_L_law 725 = .ok (.ifCond .eq 5, 3) := by decide +kernel
theorem d_L_law_728 : decode c_L_law 728 = .ok (.iconst 0, 1) := by decide +kernel
theorem d_L_law_729 : decode c_L_law 729 = .ok (.ireturn, 1) := by decide +kernel
theorem d_L_law_730 : decode c_L_law 730 = .ok (.goto 730, 3) := by decide +kernel
theorem d_L_law_733 : decode c_L_law 733 = .ok (.aload_n 1, 1) := by decide +kernel
theorem d_L_law_734 : decode c_L_law 734 = .ok (.aload_n 0, 1) := by decide +kernel
theorem d_L_law_735 : decode c_L_law 735 = .ok (.iload 4, 2) := by decide +kernel
theorem d_L_law_737 : decode c_L_law 737 = .ok (.iconst 1, 1) := by decide +kernel
theorem d_L_law_738 : decode c_L_law 738 = .ok (.iadd, 1) := by decide +kernel
theorem d_L_law_739 : decode c_L_law 739 = .ok (.iaload, 1) := by decide +kernel
theorem d_L_law_740 : decode c_L_law 740 = .ok (.aload_n 0, 1) := by decide +kernel
theorem d_L_law_741 : decode c_L_law 741 = .ok (.iload 4, 2) := by decide +kernel
theorem d_L_law_743 : decode c_L_law 743 = .ok (.iconst 2, 1) := by decide +kernel
theorem d_L_law_744 : decode c_L_law 744 = .ok (.iadd, 1) := by decide +kernel
theorem d_L_law_745 : decode c_L_law 745 = .ok (.iaload, 1) := by decide +kernel
theorem d_L_law_746 : decode c_L_law 746 = .ok (.i2l, 1) := by decide +kernel
theorem d_L_law_747 : decode c_L_law 747 = .ok (.bipush 32, 2) := by decide +kernel
theorem d_L_law_749 : decode c_L_law 749 = .ok (.lshl, 1) := by decide +kernel
theorem d_L_law_750 : decode c_L_law 750 = .ok (.aload_n 0, 1) := by decide +kernel
theorem d_L_law_751 : decode c_L_law 751 = .ok (.iload 4, 2) := by decide +kernel
theorem d_L_law_753 : decode c_L_law 753 = .ok (.iconst 3, 1) := by decide +kernel
theorem d_L_law_754 : decode c_L_law 754 = .ok (.iadd, 1) := by decide +kernel
theorem d_L_law_755 : decode c_L_law 755 = .ok (.iaload, 1) := by decide +kernel
theorem d_L_law_756 : decode c_L_law 756 = .ok (.i2l, 1) := by decide +kernel
theorem d_L_law_757 : decode c_L_law 757 = .ok (.ldc2_w 81, 3) := by decide +kernel
theorem d_L_law_760 : decode c_L_law 760 = .ok (.land, 1) := by decide +kernel
theorem d_L_law_761 : decode c_L_law 761 = .ok (.lor, 1) := by decide +kernel
theorem d_L_law_762 : decode c_L_law 762 = .ok (.aload_n 0, 1) := by decide +kernel
theorem d_L_law_763 : decode c_L_law 763 = .ok (.iload 4, 2) := by decide +kernel
theorem d_L_law_765 : decode c_L_law 765 = .ok (.iconst 4, 1) := by decide +kernel
theorem d_L_law_766 : decode c_L_law 766 = .ok (.iadd, 1) := by decide +kernel
theorem d_L_law_767 : decode c_L_law 767 = .ok (.iaload, 1) := by decide +kernel
