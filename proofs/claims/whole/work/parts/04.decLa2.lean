theorem d_La_law_552 : decode b_La_law 552 = .ok (.iconst 1, 1) := by decide +kernel
theorem d_La_law_553 : decode b_La_law 553 = .ok (.iadd, 1) := by decide +kernel
theorem d_La_law_554 : decode b_La_law 554 = .ok (.iaload, 1) := by decide +kernel
theorem d_La_law_555 : decode b_La_law 555 = .ok (.invokevirtual 81, 3) := by decide +kernel
theorem d_La_law_558 : decode b_La_law 558 = .ok (.istore 6, 2) := by decide +kernel
theorem d_La_law_560 : decode b_La_law 560 = .ok (.aload_n 2, 1) := by decide +kernel
theorem d_La_law_561 : decode b_La_law 561 = .ok (.invokevirtual 62, 3) := by decide +kernel
theorem d_La_law_564 : decode b_La_law 564 = .ok (.iload 5, 2) := by decide +kernel
theorem d_La_law_566 : decode b_La_law 566 = .ok (.if_icmp .eq (5), 3) := by decide +kernel
theorem d_La_law_569 : decode b_La_law 569 = .ok (.iconst 0, 1) := by decide +kernel
theorem d_La_law_570 : decode b_La_law 570 = .ok (.ireturn, 1) := by decide +kernel
theorem d_La_law_571 : decode b_La_law 571 = .ok (.iload 5, 2) := by decide +kernel
theorem d_La_law_573 : decode b_La_law 573 = .ok (.ifCond .ne (15), 3) := by decide +kernel
theorem d_La_law_576 : decode b_La_law 576 = .ok (.aload_n 3, 1) := by decide +kernel
theorem d_La_law_577 : decode b_La_law 577 = .ok (.iconst 0, 1) := by decide +kernel
theorem d_La_law_578 : decode b_La_law 578 = .ok (.laload, 1) := by decide +kernel
theorem d_La_law_579 : decode b_La_law 579 = .ok (.iload 6, 2) := by decide +kernel
theorem d_La_law_581 : decode b_La_law 581 = .ok (.i2l, 1) := by decide +kernel
theorem d_La_law_582 : decode b_La_law 582 = .ok (.lcmp, 1) := by decide +kernel
theorem d_La_law_583 : decode b_La_law 583 = .ok (.ifCond .eq (5), 3) := by decide +kernel
theorem d_La_law_586 : decode b_La_law 586 = .ok (.iconst 0, 1) := by decide +kernel
theorem d_La_law_587 : decode b_La_law 587 = .ok (.ireturn, 1) := by decide +kernel
theorem d_La_law_588 : decode b_La_law 588 = .ok (.goto (200), 3) := by decide +kernel
theorem d_La_law_591 : decode b_La_law 591 = .ok (.aload_n 1, 1) := by decide +kernel
theorem d_La_law_592 : decode b_La_law 592 = .ok (.aload_n 0, 1) := by decide +kernel
theorem d_La_law_593 : decode b_La_law 593 = .ok (.iload 4, 2) := by decide +kernel
theorem d_La_law_595 : decode b_La_law 595 = .ok (.iconst 1, 1) := by decide +kernel
theorem d_La_law_596 : decode b_La_law 596 = .ok (.iadd, 1) := by decide +kernel
theorem d_La_law_597 : decode b_La_law 597 = .ok (.iaload, 1) := by decide +kernel
theorem d_La_law_598 : decode b_La_law 598 = .ok (.aload_n 0, 1) := by decide +kernel
theorem d_La_law_599 : decode b_La_law 599 = .ok (.iload 4, 2) := by decide +kernel
theorem d_La_law_601 : decode b_La_law 601 = .ok (.iconst 2, 1) := by decide +kernel
theorem d_La_law_602 : decode b_La_law 602 = .ok (.iadd, 1) := by decide +kernel
theorem d_La_law_603 : decode b_La_law 603 = .ok (.iaload, 1) := by decide +kernel
theorem d_La_law_604 : decode b_La_law 604 = .ok (.aload_n 3, 1) := by decide +kernel
theorem d_La_law_605 : decode b_La_law 605 = .ok (.invokestatic 82, 3) := by decide +kernel
theorem d_La_law_608 : decode b_La_law 608 = .ok (.istore 5, 2) := by decide +kernel
theorem d_La_law_610 : decode b_La_law 610 = .ok (.aload_n 2, 1) := by decide +kernel
theorem d_La_law_611 : decode b_La_law 611 = .ok (.aload_n 0, 1) := by decide +kernel
theorem d_La_law_612 : decode b_La_law 612 = .ok (.iload 4, 2) := by decide +kernel
theorem d_La_law_614 : decode b_La_law 614 = .ok (.iconst 1, 1) := by decide +kernel
theorem d_La_law_615 : decode b_La_law 615 = .ok (.iadd, 1) := by decide +kernel
theorem d_La_law_616 : decode b_La_law 616 = .ok (.iaload, 1) := by decide +kernel
theorem d_La_law_617 : decode b_La_law 617 = .ok (.aload_n 0, 1) := by decide +kernel
theorem d_La_law_618 : decode b_La_law 618 = .ok (.iload 4, 2) := by decide +kernel
theorem d_La_law_620 : decode b_La_law 620 = .ok (.iconst 2, 1) := by decide +kernel
theorem d_La_law_621 : decode b_La_law 621 = .ok (.iadd, 1) := by decide +kernel
theorem d_La_law_622 : decode b_La_law 622 = .ok (.iaload, 1) := by decide +kernel
theorem d_La_law_623 : decode b_La_law 623 = .ok (.invokevirtual 85, 3) := by decide +kernel
theorem d_La_law_626 : decode b_La_law 626 = .ok (.istore 6, 2) := by decide +kernel
theorem d_La_law_628 : decode b_La_law 628 = .ok (.aload_n 2, 1) := by decide +kernel
theorem d_La_law_629 : decode b_La_law 629 = .ok (.invokevirtual 62, 3) := by decide +kernel
theorem d_La_law_632 : decode b_La_law 632 = .ok (.iload 5, 2) := by decide +kernel
theorem d_La_law_634 : decode b_La_law 634 = .ok (.if_icmp .eq (5), 3) := by decide +kernel
theorem d_La_law_637 : decode b_La_law 637 = .ok (.iconst 0, 1) := by decide +kernel
theorem d_La_law_638 : decode b_La_law 638 = .ok (.ireturn, 1) := by decide +kernel
theorem d_La_law_639 : decode b_La_law 639 = .ok (.iload 5, 2) := by decide +kernel
theorem d_La_law_641 : decode b_La_law 641 = .ok (.ifCond .ne (15), 3) := by decide +kernel
theorem d_La_law_644 : decode b_La_law 644 = .ok (.aload_n 3, 1) := by decide +kernel
theorem d_La_law_645 : decode b_La_law 645 = .ok (.iconst 0, 1) := by decide +kernel
theorem d_La_law_646 : decode b_La_law 646 = .ok (.laload, 1) := by decide +kernel
theorem d_La_law_647 : decode b_La_law 647 = .ok (.iload 6, 2) := by decide +kernel
theorem d_La_law_649 : decode b_La_law 649 = .ok (.i2l, 1) := by decide +kernel
theorem d_La_law_650 : decode b_La_law 650 = .ok (.lcmp, 1) := by decide +kernel
theorem d_La_law_651 : decode b_La_law 651 = .ok (.ifCond .eq (5), 3) := by decide +kernel
theorem d_La_law_654 : decode b_La_law 654 = .ok (.iconst 0, 1) := by decide +kernel
theorem d_La_law_655 : decode b_La_law 655 = .ok (.ireturn, 1) := by decide +kernel
theorem d_La_law_656 : decode b_La_law 656 = .ok (.goto (132), 3) := by decide +kernel
theorem d_La_law_659 : decode b_La_law 659 = .ok (.aload_n 1, 1) := by decide +kernel
theorem d_La_law_660 : decode b_La_law 660 = .ok (.aload_n 0, 1) := by decide +kernel
theorem d_La_law_661 : decode b_La_law 661 = .ok (.iload 4, 2) := by decide +kernel
theorem d_La_law_663 : decode b_La_law 663 = .ok (.iconst 1, 1) := by decide +kernel
theorem d_La_law_664 : decode b_La_law 664 = .ok (.iadd, 1) := by decide +kernel
theorem d_La_law_665 : decode b_La_law 665 = .ok (.iaload, 1) := by decide +kernel
theorem d_La_law_666 : decode b_La_law 666 = .ok (.aload_n 3, 1) := by decide +kernel
theorem d_La_law_667 : decode b_La_law 667 = .ok (.invokestatic 86, 3) := by decide +kernel
theorem d_La_law_670 : decode b_La_law 670 = .ok (.istore 5, 2) := by decide +kernel
theorem d_La_law_672 : decode b_La_law 672 = .ok (.aload_n 2, 1) := by decide +kernel
theorem d_La_law_673 : decode b_La_law 673 = .ok (.aload_n 0, 1) := by decide +kernel
theorem d_La_law_674 : decode b_La_law 674 = .ok (.iload 4, 2) := by decide +kernel
theorem d_La_law_676 : decode b_La_law 676 = .ok (.iconst 1, 1) := by decide +kernel
theorem d_La_law_677 : decode b_La_law 677 = .ok (.iadd, 1) := by decide +kernel
theorem d_La_law_678 : decode b_La_law 678 = .ok (.iaload, 1) := by decide +kernel
theorem d_La_law_679 : decode b_La_law 679 = .ok (.invokevirtual 88, 3) := by decide +kernel
theorem d_La_law_682 : decode b_La_law 682 = .ok (.istore 6, 2) := by decide +kernel
theorem d_La_law_684 : decode b_La_law 684 = .ok (.aload_n 2, 1) := by decide +kernel
theorem d_La_law_685 : decode b_La_law 685 = .ok (.invokevirtual 62, 3) := by decide +kernel
theorem d_La_law_688 : decode b_La_law 688 = .ok (.iload 5, 2) := by decide +kernel
theorem d_La_law_690 : decode b_La_law 690 = .ok (.if_icmp .eq (5), 3) := by decide +kernel
theorem d_La_law_693 : decode b_La_law 693 = .ok (.iconst 0, 1) := by decide +kernel
theorem d_La_law_694 : decode b_La_law 694 = .ok (.ireturn, 1) := by decide +kernel
theorem d_La_law_695 : decode b_La_law 695 = .ok (.iload 5, 2) := by decide +kernel
theorem d_La_law_697 : decode b_La_law 697 = .ok (.ifCond .ne (15), 3) := by decide +kernel
theorem d_La_law_700 : decode b_La_law 700 = .ok (.aload_n 3, 1) := by decide +kernel
theorem d_La_law_701 : decode b_La_law 701 = .ok (.iconst 0, 1) := by decide +kernel
theorem d_La_law_702 : decode b_La_law 702 = .ok (.laload, 1) := by decide +kernel
theorem d_La_law_703 : decode b_La_law 703 = .ok (.iload 6, 2) := by decide +kernel
theorem d_La_law_705 : decode b_La_law 705 = .ok (.i2l, 1) := by decide +kernel
theorem d_La_law_706 : decode b_La_law 706 = .ok (.lcmp, 1) := by decide +kernel
theorem d_La_law_707 : decode b_La_law 707 = .ok (.ifCond .eq (5), 3) := by decide +kernel
theorem d_La_law_710 : decode b_La_law 710 = .ok (.iconst 0, 1) := by decide +kernel
theorem d_La_law_711 : decode b_La_law 711 = .ok (.ireturn, 1) := by decide +kernel
theorem d_La_law_712 : decode b_La_law 712 = .ok (.goto (76), 3) := by decide +kernel
theorem d_La_law_715 : decode b_La_law 715 = .ok (.aload_n 1, 1) := by decide +kernel
theorem d_La_law_716 : decode b_La_law 716 = .ok (.aload_n 0, 1) := by decide +kernel
theorem d_La_law_717 : decode b_La_law 717 = .ok (.iload 4, 2) := by decide +kernel
theorem d_La_law_719 : decode b_La_law 719 = .ok (.iconst 1, 1) := by decide +kernel
theorem d_La_law_720 : decode b_La_law 720 = .ok (.iadd, 1) := by decide +kernel
theorem d_La_law_721 : decode b_La_law 721 = .ok (.iaload, 1) := by decide +kernel
theorem d_La_law_722 : decode b_La_law 722 = .ok (.aload_n 0, 1) := by decide +kernel
theorem d_La_law_723 : decode b_La_law 723 = .ok (.iload 4, 2) := by decide +kernel
theorem d_La_law_725 : decode b_La_law 725 = .ok (.iconst 2, 1) := by decide +kernel
theorem d_La_law_726 : decode b_La_law 726 = .ok (.iadd, 1) := by decide +kernel
theorem d_La_law_727 : decode b_La_law 727 = .ok (.iaload, 1) := by decide +kernel
theorem d_La_law_728 : decode b_La_law 728 = .ok (.invokevirtual 89, 3) := by decide +kernel
theorem d_La_law_731 : decode b_La_law 731 = .ok (.aload_n 2, 1) := by decide +kernel
theorem d_La_law_732 : decode b_La_law 732 = .ok (.aload_n 0, 1) := by decide +kernel
theorem d_La_law_733 : decode b_La_law 733 = .ok (.iload 4, 2) := by decide +kernel
theorem d_La_law_735 : decode b_La_law 735 = .ok (.iconst 1, 1) := by decide +kernel
theorem d_La_law_736 : decode b_La_law 736 = .ok (.iadd, 1) := by decide +kernel
theorem d_La_law_737 : decode b_La_law 737 = .ok (.iaload, 1) := by decide +kernel
theorem d_La_law_738 : decode b_La_law 738 = .ok (.aload_n 0, 1) := by decide +kernel
theorem d_La_law_739 : decode b_La_law 739 = .ok (.iload 4, 2) := by decide +kernel
theorem d_La_law_741 : decode b_La_law 741 = .ok (.iconst 2, 1) := by decide +kernel
theorem d_La_law_742 : decode b_La_law 742 = .ok (.iadd, 1) := by decide +kernel
theorem d_La_law_743 : decode b_La_law 743 = .ok (.iaload, 1) := by decide +kernel
theorem d_La_law_744 : decode b_La_law 744 = .ok (.invokevirtual 92, 3) := by decide +kernel
theorem d_La_law_747 : decode b_La_law 747 = .ok (.if_icmp .eq (41), 3) := by decide +kernel
theorem d_La_law_750 : decode b_La_law 750 = .ok (.iconst 0, 1) := by decide +kernel
theorem d_La_law_751 : decode b_La_law 751 = .ok (.ireturn, 1) := by decide +kernel
theorem d_La_law_752 : decode b_La_law 752 = .ok (.aload_n 1, 1) := by decide +kernel
theorem d_La_law_753 : decode b_La_law 753 = .ok (.invokevirtual 93, 3) := by decide +kernel
theorem d_La_law_756 : decode b_La_law 756 = .ok (.aload_n 2, 1) := by decide +kernel
theorem d_La_law_757 : decode b_La_law 757 = .ok (.invokevirtual 96, 3) := by decide +kernel
theorem d_La_law_760 : decode b_La_law 760 = .ok (.goto (28), 3) := by decide +kernel
theorem d_La_law_763 : decode b_La_law 763 = .ok (.aload_n 1, 1) := by decide +kernel
theorem d_La_law_764 : decode b_La_law 764 = .ok (.aload_n 0, 1) := by decide +kernel
theorem d_La_law_765 : decode b_La_law 765 = .ok (.iload 4, 2) := by decide +kernel
theorem d_La_law_767 : decode b_La_law 767 = .ok (.iconst 1, 1) := by decide +kernel
theorem d_La_law_768 : decode b_La_law 768 = .ok (.iadd, 1) := by decide +kernel
theorem d_La_law_769 : decode b_La_law 769 = .ok (.iaload, 1) := by decide +kernel
theorem d_La_law_770 : decode b_La_law 770 = .ok (.invokevirtual 97, 3) := by decide +kernel
theorem d_La_law_773 : decode b_La_law 773 = .ok (.aload_n 2, 1) := by decide +kernel
theorem d_La_law_774 : decode b_La_law 774 = .ok (.aload_n 0, 1) := by decide +kernel
theorem d_La_law_775 : decode b_La_law 775 = .ok (.iload 4, 2) := by decide +kernel
theorem d_La_law_777 : decode b_La_law 777 = .ok (.iconst 1, 1) := by decide +kernel
theorem d_La_law_778 : decode b_La_law 778 = .ok (.iadd, 1) := by decide +kernel
theorem d_La_law_779 : decode b_La_law 779 = .ok (.iaload, 1) := by decide +kernel
theorem d_La_law_780 : decode b_La_law 780 = .ok (.invokevirtual 100, 3) := by decide +kernel
theorem d_La_law_783 : decode b_La_law 783 = .ok (.if_icmp .eq (5), 3) := by decide +kernel
theorem d_La_law_786 : decode b_La_law 786 = .ok (.iconst 0, 1) := by decide +kernel
theorem d_La_law_787 : decode b_La_law 787 = .ok (.ireturn, 1) := by decide +kernel
theorem d_La_law_788 : decode b_La_law 788 = .ok (.iinc 4 (6), 3) := by decide +kernel
theorem d_La_law_791 : decode b_La_law 791 = .ok (.goto (-768), 3) := by decide +kernel
theorem d_La_law_794 : decode b_La_law 794 = .ok (.iconst 1, 1) := by decide +kernel
theorem d_La_law_795 : decode b_La_law 795 = .ok (.ireturn, 1) := by decide +kernel
