theorem d_L_law_576 : decode c_L_law 576 = .ok (.ireturn, 1) := by decide +kernel
theorem d_L_law_577 : decode c_L_law 577 = .ok (.iload 5, 2) := by decide +kernel
theorem d_L_law_579 : decode c_L_law 579 = .ok (.ifCond .ne 15, 3) := by decide +kernel
theorem d_L_law_582 : decode c_L_law 582 = .ok (.aload_n 3, 1) := by decide +kernel
theorem d_L_law_583 : decode c_L_law 583 = .ok (.iconst 0, 1) := by decide +kernel
theorem d_L_law_584 : decode c_L_law 584 = .ok (.laload, 1) := by decide +kernel
theorem d_L_law_585 : decode c_L_law 585 = .ok (.iload 6, 2) := by decide +kernel
theorem d_L_law_587 : decode c_L_law 587 = .ok (.i2l, 1) := by decide +kernel
theorem d_L_law_588 : decode c_L_law 588 = .ok (.lcmp, 1) := by decide +kernel
theorem d_L_law_589 : decode c_L_law 589 = .ok (.ifCond .eq 5, 3) := by decide +kernel
theorem d_L_law_592 : decode c_L_law 592 = .ok (.iconst 0, 1) := by decide +kernel
theorem d_L_law_593 : decode c_L_law 593 = .ok (.ireturn, 1) := by decide +kernel
theorem d_L_law_594 : decode c_L_law 594 = .ok (.goto 447, 3) := by decide +kernel
theorem d_L_law_597 : decode c_L_law 597 = .ok (.aload_n 1, 1) := by decide +kernel
theorem d_L_law_598 : decode c_L_law 598 = .ok (.invokevirtual 103, 3) := by decide +kernel
theorem d_L_law_601 : decode c_L_law 601 = .ok (.aload_n 2, 1) := by decide +kernel
theorem d_L_law_602 : decode c_L_law 602 = .ok (.invokevirtual 106, 3) := by decide +kernel
theorem d_L_law_605 : decode c_L_law 605 = .ok (.if_icmp .eq 436, 3) := by decide +kernel
theorem d_L_law_608 : decode c_L_law 608 = .ok (.iconst 0, 1) := by decide +kernel
theorem d_L_law_609 : decode c_L_law 609 = .ok (.ireturn, 1) := by decide +kernel
theorem d_L_law_610 : decode c_L_law 610 = .ok (.aload_n 1, 1) := by decide +kernel
theorem d_L_law_611 : decode c_L_law 611 = .ok (.aload_n 0, 1) := by decide +kernel
theorem d_L_law_612 : decode c_L_law 612 = .ok (.iload 4, 2) := by decide +kernel
theorem d_L_law_614 : decode c_L_law 614 = .ok (.iconst 1, 1) := by decide +kernel
theorem d_L_law_615 : decode c_L_law 615 = .ok (.iadd, 1) := by decide +kernel
theorem d_L_law_616 : decode c_L_law 616 = .ok (.iaload, 1) := by decide +kernel
theorem d_L_law_617 : decode c_L_law 617 = .ok (.aload_n 0, 1) := by decide +kernel
theorem d_L_law_618 : decode c_L_law 618 = .ok (.iload 4, 2) := by decide +kernel
theorem d_L_law_620 : decode c_L_law 620 = .ok (.iconst 2, 1) := by decide +kernel
theorem d_L_law_621 : decode c_L_law 621 = .ok (.iadd, 1) := by decide +kernel
theorem d_L_law_622 : decode c_L_law 622 = .ok (.iaload, 1) := by decide +kernel
theorem d_L_law_623 : decode c_L_law 623 = .ok (.i2l, 1) := by decide +kernel
theorem d_L_law_624 : decode c_L_law 624 = .ok (.bipush 32, 2) := by decide +kernel
theorem d_L_law_626 : decode c_L_law 626 = .ok (.lshl, 1) := by decide +kernel
theorem d_L_law_627 : decode c_L_law 627 = .ok (.aload_n 0, 1) := by decide +kernel
theorem d_L_law_628 : decode c_L_law 628 = .ok (.iload 4, 2) := by decide +kernel
theorem d_L_law_630 : decode c_L_law 630 = .ok (.iconst 3, 1) := by decide +kernel
theorem d_L_law_631 : decode c_L_law 631 = .ok (.iadd, 1) := by decide +kernel
theorem d_L_law_632 : decode c_L_law 632 = .ok (.iaload, 1) := by decide +kernel
theorem d_L_law_633 : decode c_L_law 633 = .ok (.i2l, 1) := by decide +kernel
theorem d_L_law_634 : decode c_L_law 634 = .ok (.ldc2_w 107, 3) := by decide +kernel
theorem d_L_law_637 : decode c_L_law 637 = .ok (.land, 1) := by decide +kernel
theorem d_L_law_638 : decode c_L_law 638 = .ok (.lor, 1) := by decide +kernel
theorem d_L_law_639 : decode c_L_law 639 = .ok (.aload_n 0, 1) := by decide +kernel
theorem d_L_law_640 : decode c_L_law 640 = .ok (.iload 4, 2) := by decide +kernel
theorem d_L_law_642 : decode c_L_law 642 = .ok (.iconst 4, 1) := by decide +kernel
theorem d_L_law_643 : decode c_L_law 643 = .ok (.iadd, 1) := by decide +kernel
theorem d_L_law_644 : decode c_L_law 644 = .ok (.iaload, 1) := by decide +kernel
theorem d_L_law_645 : decode c_L_law 645 = .ok (.i2l, 1) := by decide +kernel
theorem d_L_law_646 : decode c_L_law 646 = .ok (.bipush 32, 2) := by decide +kernel
theorem d_L_law_648 : decode c_L_law 648 = .ok (.lshl, 1) := by decide +kernel
theorem d_L_law_649 : decode c_L_law 649 = .ok (.aload_n 0, 1) := by decide +kernel
theorem d_L_law_650 : decode c_L_law 650 = .ok (.iload 4, 2) := by decide +kernel
theorem d_L_law_652 : decode c_L_law 652 = .ok (.iconst 5, 1) := by decide +kernel
theorem d_L_law_653 : decode c_L_law 653 = .ok (.iadd, 1) := by decide +kernel
theorem d_L_law_654 : decode c_L_law 654 = .ok (.iaload, 1) := by decide +kernel
theorem d_L_law_655 : decode c_L_law 655 = .ok (.i2l, 1) := by decide +kernel
theorem d_L_law_656 : decode c_L_law 656 = .ok (.ldc2_w 107, 3) := by decide +kernel
theorem d_L_law_659 : decode c_L_law 659 = .ok (.land, 1) := by decide +kernel
theorem d_L_law_660 : decode c_L_law 660 = .ok (.lor, 1) := by decide +kernel
theorem d_L_law_661 : decode c_L_law 661 = .ok (.aload_n 3, 1) := by decide +kernel
theorem d_L_law_662 : decode c_L_law 662 = .ok (.invokestatic 109, 3) := by decide +kernel
theorem d_L_law_665 : decode c_L_law 665 = .ok (.istore 5, 2) := by decide +kernel
theorem d_L_law_667 : decode c_L_law 667 = .ok (.aload_n 2, 1) := by decide +kernel
theorem d_L_law_668 : decode c_L_law 668 = .ok (.aload_n 0, 1) := by decide +kernel
theorem d_L_law_669 : decode c_L_law 669 = .ok (.iload 4, 2) := by decide +kernel
theorem d_L_law_671 : decode c_L_law 671 = .ok (.iconst 1, 1) := by decide +kernel
theorem d_L_law_672 : decode c_L_law 672 = .ok (.iadd, 1) := by decide +kernel
theorem d_L_law_673 : decode c_L_law 673 = .ok (.iaload, 1) := by decide +kernel
theorem d_L_law_674 : decode c_L_law 674 = .ok (.aload_n 0, 1) := by decide +kernel
theorem d_L_law_675 : decode c_L_law 675 = .ok (.iload 4, 2) := by decide +kernel
theorem d_L_law_677 : decode c_L_law 677 = .ok (.iconst 2, 1) := by decide +kernel
theorem d_L_law_678 : decode c_L_law 678 = .ok (.iadd, 1) := by decide +kernel
theorem d_L_law_679 : decode c_L_law 679 = .ok (.iaload, 1) := by decide +kernel
theorem d_L_law_680 : decode c_L_law 680 = .ok (.i2l, 1) := by decide +kernel
theorem d_L_law_681 : decode c_L_law 681 = .ok (.bipush 32, 2) := by decide +kernel
theorem d_L_law_683 : decode c_L_law 683 = .ok (.lshl, 1) := by decide +kernel
theorem d_L_law_684 : decode c_L_law 684 = .ok (.aload_n 0, 1) := by decide +kernel
theorem d_L_law_685 : decode c_L_law 685 = .ok (.iload 4, 2) := by decide +kernel
theorem d_L_law_687 : decode c_L_law 687 = .ok (.iconst 3, 1) := by decide +kernel
theorem d_L_law_688 : decode c_L_law 688 = .ok (.iadd, 1) := by decide +kernel
theorem d_L_law_689 : decode c_L_law 689 = .ok (.iaload, 1) := by decide +kernel
theorem d_L_law_690 : decode c_L_law 690 = .ok (.i2l, 1) := by decide +kernel
theorem d_L_law_691 : decode c_L_law 691 = .ok (.ldc2_w 107, 3) := by decide +kernel
theorem d_L_law_694 : decode c_L_law 694 = .ok (.land, 1) := by decide +kernel
theorem d_L_law_695 : decode c_L_law 695 = .ok (.lor, 1) := by decide +kernel
theorem d_L_law_696 : decode c_L_law 696 = .ok (.aload_n 0, 1) := by decide +kernel
theorem d_L_law_697 : decode c_L_law 697 = .ok (.iload 4, 2) := by decide +kernel
theorem d_L_law_699 : decode c_L_law 699 = .ok (.iconst 4, 1) := by decide +kernel
theorem d_L_law_700 : decode c_L_law 700 = .ok (.iadd, 1) := by decide +kernel
theorem d_L_law_701 : decode c_L_law 701 = .ok (.iaload, 1) := by decide +kernel
theorem d_L_law_702 : decode c_L_law 702 = .ok (.i2l, 1) := by decide +kernel
theorem d_L_law_703 : decode c_L_law 703 = .ok (.bipush 32, 2) := by decide +kernel
theorem d_L_law_705 : decode c_L_law 705 = .ok (.lshl, 1) := by decide +kernel
theorem d_L_law_706 : decode c_L_law 706 = .ok (.aload_n 0, 1) := by decide +kernel
theorem d_L_law_707 : decode c_L_law 707 = .ok (.iload 4, 2) := by decide +kernel
theorem d_L_law_709 : decode c_L_law 709 = .ok (.iconst 5, 1) := by decide +kernel
theorem d_L_law_710 : decode c_L_law 710 = .ok (.iadd, 1) := by decide +kernel
theorem d_L_law_711 : decode c_L_law 711 = .ok (.iaload, 1) := by decide +kernel
theorem d_L_law_712 : decode c_L_law 712 = .ok (.i2l, 1) := by decide +kernel
theorem d_L_law_713 : decode c_L_law 713 = .ok (.ldc2_w 107, 3) := by decide +kernel
theorem d_L_law_716 : decode c_L_law 716 = .ok (.land, 1) := by decide +kernel
theorem d_L_law_717 : decode c_L_law 717 = .ok (.lor, 1) := by decide +kernel
theorem d_L_law_718 : decode c_L_law 718 = .ok (.invokevirtual 112, 3) := by decide +kernel
theorem d_L_law_721 : decode c_L_law 721 = .ok (.istore 6, 2) := by decide +kernel
theorem d_L_law_723 : decode c_L_law 723 = .ok (.aload_n 2, 1) := by decide +kernel
theorem d_L_law_724 : decode c_L_law 724 = .ok (.invokevirtual 74, 3) := by decide +kernel
theorem d_L_law_727 : decode c_L_law 727 = .ok (.iload 5, 2) := by decide +kernel
theorem d_L_law_729 : decode c_L_law 729 = .ok (.if_icmp .eq 5, 3) := by decide +kernel
theorem d_L_law_732 : decode c_L_law 732 = .ok (.iconst 0, 1) := by decide +kernel
