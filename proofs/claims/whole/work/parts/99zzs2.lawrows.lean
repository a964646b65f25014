/-! rows of the law's own code -/
theorem dL_law__538 : decode cL_law_ 538 = .ok (.iload 4, 2) := by decide +kernel
theorem dL_law__540 : decode cL_law_ 540 = .ok (.iconst 1, 1) := by decide +kernel
theorem dL_law__541 : decode cL_law_ 541 = .ok (.iadd, 1) := by decide +kernel
theorem dL_law__542 : decode cL_law_ 542 = .ok (.iaload, 1) := by decide +kernel
theorem dL_law__543 : decode cL_law_ 543 = .ok (.aload_n 0, 1) := by decide +kernel
theorem dL_law__544 : decode cL_law_ 544 = .ok (.iload 4, 2) := by decide +kernel
theorem dL_law__546 : decode cL_law_ 546 = .ok (.iconst 2, 1) := by decide +kernel
theorem dL_law__547 : decode cL_law_ 547 = .ok (.iadd, 1) := by decide +kernel
theorem dL_law__548 : decode cL_law_ 548 = .ok (.iaload, 1) := by decide +kernel
theorem dL_law__549 : decode cL_law_ 549 = .ok (.aload_n 0, 1) := by decide +kernel
theorem dL_law__550 : decode cL_law_ 550 = .ok (.iload 4, 2) := by decide +kernel
theorem dL_law__552 : decode cL_law_ 552 = .ok (.iconst 3, 1) := by decide +kernel
theorem dL_law__553 : decode cL_law_ 553 = .ok (.iadd, 1) := by decide +kernel
theorem dL_law__554 : decode cL_law_ 554 = .ok (.iaload, 1) := by decide +kernel
theorem dL_law__555 : decode cL_law_ 555 = .ok (.invokevirtual 142, 3) := by decide +kernel
theorem dL_law__558 : decode cL_law_ 558 = .ok (.istore 6, 2) := by decide +kernel
theorem dL_law__560 : decode cL_law_ 560 = .ok (.aload_n 2, 1) := by decide +kernel
theorem dL_law__561 : decode cL_law_ 561 = .ok (.invokevirtual 125, 3) := by decide +kernel
theorem dL_law__564 : decode cL_law_ 564 = .ok (.iload 5, 2) := by decide +kernel
theorem dL_law__566 : decode cL_law_ 566 = .ok (.if_icmp .eq 5, 3) := by decide +kernel
theorem dL_law__569 : decode cL_law_ 569 = .ok (.iconst 0, 1) := by decide +kernel
theorem dL_law__570 : decode cL_law_ 570 = .ok (.ireturn, 1) := by decide +kernel
theorem dL_law__571 : decode cL_law_ 571 = .ok (.iload 5, 2) := by decide +kernel
theorem dL_law__573 : decode cL_law_ 573 = .ok (.ifCond .ne 15, 3) := by decide +kernel
theorem dL_law__576 : decode cL_law_ 576 = .ok (.aload_n 3, 1) := by decide +kernel
theorem dL_law__577 : decode cL_law_ 577 = .ok (.iconst 0, 1) := by decide +kernel
theorem dL_law__578 : decode cL_law_ 578 = .ok (.laload, 1) := by decide +kernel
theorem dL_law__579 : decode cL_law_ 579 = .ok (.iload 6, 2) := by decide +kernel
theorem dL_law__581 : decode cL_law_ 581 = .ok (.i2l, 1) := by decide +kernel
theorem dL_law__582 : decode cL_law_ 582 = .ok (.lcmp, 1) := by decide +kernel
theorem dL_law__583 : decode cL_law_ 583 = .ok (.ifCond .eq 5, 3) := by decide +kernel
theorem dL_law__586 : decode cL_law_ 586 = .ok (.iconst 0, 1) := by decide +kernel
theorem dL_law__587 : decode cL_law_ 587 = .ok (.ireturn, 1) := by decide +kernel
theorem dL_law__588 : decode cL_law_ 588 = .ok (.goto 1730, 3) := by decide +kernel
theorem dL_law__591 : decode cL_law_ 591 = .ok (.aload_n 1, 1) := by decide +kernel
theorem dL_law__592 : decode cL_law_ 592 = .ok (.aload_n 0, 1) := by decide +kernel
theorem dL_law__593 : decode cL_law_ 593 = .ok (.iload 4, 2) := by decide +kernel
theorem dL_law__595 : decode cL_law_ 595 = .ok (.iconst 1, 1) := by decide +kernel
theorem dL_law__596 : decode cL_law_ 596 = .ok (.iadd, 1) := by decide +kernel
theorem dL_law__597 : decode cL_law_ 597 = .ok (.iaload, 1) := by decide +kernel
theorem dL_law__598 : decode cL_law_ 598 = .ok (.aload_n 0, 1) := by decide +kernel
theorem dL_law__599 : decode cL_law_ 599 = .ok (.iload 4, 2) := by decide +kernel
theorem dL_law__601 : decode cL_law_ 601 = .ok (.iconst 2, 1) := by decide +kernel
theorem dL_law__602 : decode cL_law_ 602 = .ok (.iadd, 1) := by decide +kernel
theorem dL_law__603 : decode cL_law_ 603 = .ok (.iaload, 1) := by decide +kernel
theorem dL_law__604 : decode cL_law_ 604 = .ok (.aload_n 3, 1) := by decide +kernel
theorem dL_law__605 : decode cL_law_ 605 = .ok (.invokestatic 143, 3) := by decide +kernel
theorem dL_law__608 : decode cL_law_ 608 = .ok (.istore 5, 2) := by decide +kernel
theorem dL_law__610 : decode cL_law_ 610 = .ok (.aload_n 2, 1) := by decide +kernel
theorem dL_law__611 : decode cL_law_ 611 = .ok (.aload_n 0, 1) := by decide +kernel
theorem dL_law__612 : decode cL_law_ 612 = .ok (.iload 4, 2) := by decide +kernel
theorem dL_law__614 : decode cL_law_ 614 = .ok (.iconst 1, 1) := by decide +kernel
theorem dL_law__615 : decode cL_law_ 615 = .ok (.iadd, 1) := by decide +kernel
theorem dL_law__616 : decode cL_law_ 616 = .ok (.iaload, 1) := by decide +kernel
theorem dL_law__617 : decode cL_law_ 617 = .ok (.aload_n 0, 1) := by decide +kernel
theorem dL_law__618 : decode cL_law_ 618 = .ok (.iload 4, 2) := by decide +kernel
theorem dL_law__620 : decode cL_law_ 620 = .ok (.iconst 2, 1) := by decide +kernel
theorem dL_law__621 : decode cL_law_ 621 = .ok (.iadd, 1) := by decide +kernel
theorem dL_law__622 : decode cL_law_ 622 = .ok (.iaload, 1) := by decide +kernel
theorem dL_law__623 : decode cL_law_ 623 = .ok (.invokevirtual 145, 3) := by decide +kernel
theorem dL_law__626 : decode cL_law_ 626 = .ok (.istore 6, 2) := by decide +kernel
theorem dL_law__628 : decode cL_law_ 628 = .ok (.aload_n 2, 1) := by decide +kernel
theorem dL_law__629 : decode cL_law_ 629 = .ok (.invokevirtual 125, 3) := by decide +kernel
theorem dL_law__632 : decode cL_law_ 632 = .ok (.iload 5, 2) := by decide +kernel
theorem dL_law__634 : decode cL_law_ 634 = .ok (.if_icmp .eq 5, 3) := by decide +kernel
theorem dL_law__637 : decode cL_law_ 637 = .ok (.iconst 0, 1) := by decide +kernel
theorem dL_law__638 : decode cL_law_ 638 = .ok (.ireturn, 1) := by decide +kernel
theorem dL_law__639 : decode cL_law_ 639 = .ok (.iload 5, 2) := by decide +kernel
theorem dL_law__641 : decode cL_law_ 641 = .ok (.ifCond .ne 15, 3) := by decide +kernel
theorem dL_law__644 : decode cL_law_ 644 = .ok (.aload_n 3, 1) := by decide +kernel
theorem dL_law__645 : decode cL_law_ 645 = .ok (.iconst 0, 1) := by decide +kernel
theorem dL_law__646 : decode cL_law_ 646 = .ok (.laload, 1) := by decide +kernel
theorem dL_law__647 : decode cL_law_ 647 = .ok (.iload 6, 2) := by decide +kernel
theorem dL_law__649 : decode cL_law_ 649 = .ok (.i2l, 1) := by decide +kernel
theorem dL_law__650 : decode cL_law_ 650 = .ok (.lcmp, 1) := by decide +kernel
theorem dL_law__651 : decode cL_law_ 651 = .ok (.ifCond .eq 5, 3) := by decide +kernel
theorem dL_law__654 : decode cL_law_ 654 = .ok (.iconst 0, 1) := by decide +kernel
theorem dL_law__655 : decode cL_law_ 655 = .ok (.ireturn, 1) := by decide +kernel
theorem dL_law__656 : decode cL_law_ 656 = .ok (.goto 1662, 3) := by decide +kernel
theorem dL_law__659 : decode cL_law_ 659 = .ok (.aload_n 1, 1) := by decide +kernel
theorem dL_law__660 : decode cL_law_ 660 = .ok (.aload_n 0, 1) := by decide +kernel
theorem dL_law__661 : decode cL_law_ 661 = .ok (.iload 4, 2) := by decide +kernel
theorem dL_law__663 : decode cL_law_ 663 = .ok (.iconst 1, 1) := by decide +kernel
theorem dL_law__664 : decode cL_law_ 664 = .ok (.iadd, 1) := by decide +kernel
theorem dL_law__665 : decode cL_law_ 665 = .ok (.iaload, 1) := by decide +kernel
theorem dL_law__666 : decode cL_law_ 666 = .ok (.aload_n 3, 1) := by decide +kernel
theorem dL_law__667 : decode cL_law_ 667 = .ok (.invokestatic 146, 3) := by decide +kernel
theorem dL_law__670 : decode cL_law_ 670 = .ok (.istore 5, 2) := by decide +kernel
theorem dL_law__672 : decode cL_law_ 672 = .ok (.aload_n 2, 1) := by decide +kernel
theorem dL_law__673 : decode cL_law_ 673 = .ok (.aload_n 0, 1) := by decide +kernel
theorem dL_law__674 : decode cL_law_ 674 = .ok (.iload 4, 2) := by decide +kernel
theorem dL_law__676 : decode cL_law_ 676 = .ok (.iconst 1, 1) := by decide +kernel
theorem dL_law__677 : decode cL_law_ 677 = .ok (.iadd, 1) := by decide +kernel
theorem dL_law__678 : decode cL_law_ 678 = .ok (.iaload, 1) := by decide +kernel
theorem dL_law__679 : decode cL_law_ 679 = .ok (.invokevirtual 149, 3) := by decide +kernel
theorem dL_law__682 : decode cL_law_ 682 = .ok (.istore 6, 2) := by decide +kernel
theorem dL_law__684 : decode cL_law_ 684 = .ok (.aload_n 2, 1) := by decide +kernel
theorem dL_law__685 : decode cL_law_ 685 = .ok (.invokevirtual 125, 3) := by decide +kernel
theorem dL_law__688 : decode cL_law_ 688 = .ok (.iload 5, 2) := by decide +kernel
theorem dL_law__690 : decode cL_law_ 690 = .ok (.if_icmp .eq 5, 3) := by decide +kernel
theorem dL_law__693 : decode cL_law_ 693 = .ok (.iconst 0, 1) := by decide +kernel
theorem dL_law__694 : decode cL_law_ 694 = .ok (.ireturn, 1) := by decide +kernel
theorem dL_law__695 : decode cL_law_ 695 = .ok (.iload 5, 2) := by decide +kernel
theorem dL_law__697 : decode cL_law_ 697 = .ok (.ifCond .ne 15, 3) := by decide +kernel
theorem dL_law__700 : decode cL_law_ 700 = .ok (.aload_n 3, 1) := by decide +kernel
theorem dL_law__701 : decode cL_law_ 701 = .ok (.iconst 0, 1) := by decide +kernel
theorem dL_law__702 : decode cL_law_ 702 = .ok (.laload, 1) := by decide +kernel
theorem dL_law__703 : decode cL_law_ 703 = .ok (.iload 6, 2) := by decide +kernel
theorem dL_law__705 : decode cL_law_ 705 = .ok (.i2l, 1) := by decide +kernel
theorem dL_law__706 : decode cL_law_ 706 = .ok (.lcmp, 1) := by decide +kernel
theorem dL_law__707 : decode cL_law_ 707 = .ok (.ifCond .eq 5, 3) := by decide +kernel
theorem dL_law__710 : decode cL_law_ 710 = .ok (.iconst 0, 1) := by decide +kernel
theorem dL_law__711 : decode cL_law_ 711 = .ok (.ireturn, 1) := by decide +kernel
theorem dL_law__712 : decode cL_law_ 712 = .ok (.goto 1606, 3) := by decide +kernel
theorem dL_law__715 : decode cL_law_ 715 = .ok (.aload_n 1, 1) := by decide +kernel
theorem dL_law__716 : decode cL_law_ 716 = .ok (.invokevirtual 150, 3) := by decide +kernel
theorem dL_law__719 : decode cL_law_ 719 = .ok (.aload_n 2, 1) := by decide +kernel
theorem dL_law__720 : decode cL_law_ 720 = .ok (.invokevirtual 153, 3) := by decide +kernel
theorem dL_law__723 : decode cL_law_ 723 = .ok (.if_icmp .eq 1595, 3) := by decide +kernel
theorem dL_law__726 : decode cL_law_ 726 = .ok (.iconst 0, 1) := by decide +kernel
theorem dL_law__727 : decode cL_law_ 727 = .ok (.ireturn, 1) := by decide +kernel
theorem dL_law__728 : decode cL_law_ 728 = .ok (.aload_n 1, 1) := by decide +kernel
theorem dL_law__729 : decode cL_law_ 729 = .ok (.invokevirtual 154, 3) := by decide +kernel
theorem dL_law__732 : decode cL_law_ 732 = .ok (.aload_n 2, 1) := by decide +kernel
theorem dL_law__733 : decode cL_law_ 733 = .ok (.invokevirtual 157, 3) := by decide +kernel
theorem dL_law__736 : decode cL_law_ 736 = .ok (.if_icmp .eq 1582, 3) := by decide +kernel
theorem dL_law__739 : decode cL_law_ 739 = .ok (.iconst 0, 1) := by decide +kernel
theorem dL_law__740 : decode cL_law_ 740 = .ok (.ireturn, 1) := by decide +kernel
theorem dL_law__741 : decode cL_law_ 741 = .ok (.aload_n 1, 1) := by decide +kernel
theorem dL_law__742 : decode cL_law_ 742 = .ok (.aload_n 0, 1) := by decide +kernel
theorem dL_law__743 : decode cL_law_ 743 = .ok (.iload 4, 2) := by decide +kernel
theorem dL_law__745 : decode cL_law_ 745 = .ok (.iconst 1, 1) := by decide +kernel
theorem dL_law__746 : decode cL_law_ 746 = .ok (.iadd, 1) := by decide +kernel
theorem dL_law__747 : decode cL_law_ 747 = .ok (.iaload, 1) := by decide +kernel
theorem dL_law__748 : decode cL_law_ 748 = .ok (.aload_n 3, 1) := by decide +kernel
theorem dL_law__749 : decode cL_law_ 749 = .ok (.invokestatic 158, 3) := by decide +kernel
theorem dL_law__752 : decode cL_law_ 752 = .ok (.istore 5, 2) := by decide +kernel
theorem dL_law__754 : decode cL_law_ 754 = .ok (.aload_n 2, 1) := by decide +kernel
theorem dL_law__755 : decode cL_law_ 755 = .ok (.aload_n 0, 1) := by decide +kernel
theorem dL_law__756 : decode cL_law_ 756 = .ok (.iload 4, 2) := by decide +kernel
theorem dL_law__758 : decode cL_law_ 758 = .ok (.iconst 1, 1) := by decide +kernel
theorem dL_law__759 : decode cL_law_ 759 = .ok (.iadd, 1) := by decide +kernel
theorem dL_law__760 : decode cL_law_ 760 = .ok (.iaload, 1) := by decide +kernel
theorem dL_law__761 : decode cL_law_ 761 = .ok (.invokevirtual 160, 3) := by decide +kernel
theorem dL_law__764 : decode cL_law_ 764 = .ok (.istore 6, 2) := by decide +kernel
theorem dL_law__766 : decode cL_law_ 766 = .ok (.aload_n 2, 1) := by decide +kernel
theorem dL_law__767 : decode cL_law_ 767 = .ok (.invokevirtual 125, 3) := by decide +kernel
theorem dL_law__770 : decode cL_law_ 770 = .ok (.iload 5, 2) := by decide +kernel
theorem dL_law__772 : decode cL_law_ 772 = .ok (.if_icmp .eq 5, 3) := by decide +kernel
theorem dL_law__775 : decode cL_law_ 775 = .ok (.iconst 0, 1) := by decide +kernel
theorem dL_law__776 : decode cL_law_ 776 = .ok (.ireturn, 1) := by decide +kernel
theorem dL_law__777 : decode cL_law_ 777 = .ok (.iload 5, 2) := by decide +kernel
theorem dL_law__779 : decode cL_law_ 779 = .ok (.ifCond .ne 15, 3) := by decide +kernel
theorem dL_law__782 : decode cL_law_ 782 = .ok (.aload_n 3, 1) := by decide +kernel
theorem dL_law__783 : decode cL_law_ 783 = .ok (.iconst 0, 1) := by decide +kernel
theorem dL_law__784 : decode cL_law_ 784 = .ok (.laload, 1) := by decide +kernel
theorem dL_law__785 : decode cL_law_ 785 = .ok (.iload 6, 2) := by decide +kernel
theorem dL_law__787 : decode cL_law_ 787 = .ok (.i2l, 1) := by decide +kernel
theorem dL_law__788 : decode cL_law_ 788 = .ok (.lcmp, 1) := by decide +kernel
theorem dL_law__789 : decode cL_law_ 789 = .ok (.ifCond .eq 5, 3) := by decide +kernel
theorem dL_law__792 : decode cL_law_ 792 = .ok (.iconst 0, 1) := by decide +kernel
theorem dL_law__793 : decode cL_law_ 793 = .ok (.ireturn, 1) := by decide +kernel
theorem dL_law__794 : decode cL_law_ 794 = .ok (.goto 1524, 3) := by decide +kernel
theorem dL_law__797 : decode cL_law_ 797 = .ok (.aload_n 1, 1) := by decide +kernel
theorem dL_law__798 : decode cL_law_ 798 = .ok (.aload_n 0, 1) := by decide +kernel
theorem dL_law__799 : decode cL_law_ 799 = .ok (.iload 4, 2) := by decide +kernel
theorem dL_law__801 : decode cL_law_ 801 = .ok (.iconst 1, 1) := by decide +kernel
theorem dL_law__802 : decode cL_law_ 802 = .ok (.iadd, 1) := by decide +kernel
theorem dL_law__803 : decode cL_law_ 803 = .ok (.iaload, 1) := by decide +kernel
theorem dL_law__804 : decode cL_law_ 804 = .ok (.aload_n 0, 1) := by decide +kernel
theorem dL_law__805 : decode cL_law_ 805 = .ok (.iload 4, 2) := by decide +kernel
theorem dL_law__807 : decode cL_law_ 807 = .ok (.iconst 2, 1) := by decide +kernel
theorem dL_law__808 : decode cL_law_ 808 = .ok (.iadd, 1) := by decide +kernel
theorem dL_law__809 : decode cL_law_ 809 = .ok (.iaload, 1) := by decide +kernel
theorem dL_law__810 : decode cL_law_ 810 = .ok (.aload_n 3, 1) := by decide +kernel
theorem dL_law__811 : decode cL_law_ 811 = .ok (.invokestatic 161, 3) := by decide +kernel
theorem dL_law__814 : decode cL_law_ 814 = .ok (.istore 5, 2) := by decide +kernel
theorem dL_law__816 : decode cL_law_ 816 = .ok (.aload_n 2, 1) := by decide +kernel
theorem dL_law__817 : decode cL_law_ 817 = .ok (.aload_n 0, 1) := by decide +kernel
theorem dL_law__818 : decode cL_law_ 818 = .ok (.iload 4, 2) := by decide +kernel
theorem dL_law__820 : decode cL_law_ 820 = .ok (.iconst 1, 1) := by decide +kernel
theorem dL_law__821 : decode cL_law_ 821 = .ok (.iadd, 1) := by decide +kernel
theorem dL_law__822 : decode cL_law_ 822 = .ok (.iaload, 1) := by decide +kernel
theorem dL_law__823 : decode cL_law_ 823 = .ok (.aload_n 0, 1) := by decide +kernel
theorem dL_law__824 : decode cL_law_ 824 = .ok (.iload 4, 2) := by decide +kernel
theorem dL_law__826 : decode cL_law_ 826 = .ok (.iconst 2, 1) := by decide +kernel
theorem dL_law__827 : decode cL_law_ 827 = .ok (.iadd, 1) := by decide +kernel
theorem dL_law__828 : decode cL_law_ 828 = .ok (.iaload, 1) := by decide +kernel
theorem dL_law__829 : decode cL_law_ 829 = .ok (.invokevirtual 163, 3) := by decide +kernel
theorem dL_law__832 : decode cL_law_ 832 = .ok (.istore 6, 2) := by decide +kernel
theorem dL_law__834 : decode cL_law_ 834 = .ok (.aload_n 2, 1) := by decide +kernel
theorem dL_law__835 : decode cL_law_ 835 = .ok (.invokevirtual 125, 3) := by decide +kernel
theorem dL_law__838 : decode cL_law_ 838 = .ok (.iload 5, 2) := by decide +kernel
theorem dL_law__840 : decode cL_law_ 840 = .ok (.if_icmp .eq 5, 3) := by decide +kernel
theorem dL_law__843 : decode cL_law_ 843 = .ok (.iconst 0, 1) := by decide +kernel
theorem dL_law__844 : decode cL_law_ 844 = .ok (.ireturn, 1) := by decide +kernel
theorem dL_law__845 : decode cL_law_ 845 = .ok (.iload 5, 2) := by decide +kernel
theorem dL_law__847 : decode cL_law_ 847 = .ok (.ifCond .ne 15, 3) := by decide +kernel
theorem dL_law__850 : decode cL_law_ 850 = .ok (.aload_n 3, 1) := by decide +kernel
theorem dL_law__851 : decode cL_law_ 851 = .ok (.iconst 0, 1) := by decide +kernel
theorem dL_law__852 : decode cL_law_ 852 = .ok (.laload, 1) := by decide +kernel
theorem dL_law__853 : decode cL_law_ 853 = .ok (.iload 6, 2) := by decide +kernel
theorem dL_law__855 : decode cL_law_ 855 = .ok (.i2l, 1) := by decide +kernel
theorem dL_law__856 : decode cL_law_ 856 = .ok (.lcmp, 1) := by decide +kernel
theorem dL_law__857 : decode cL_law_ 857 = .ok (.ifCond .eq 5, 3) := by decide +kernel
theorem dL_law__860 : decode cL_law_ 860 = .ok (.iconst 0, 1) := by decide +kernel
theorem dL_law__861 : decode cL_law_ 861 = .ok (.ireturn, 1) := by decide +kernel
theorem dL_law__862 : decode cL_law_ 862 = .ok (.goto 1456, 3) := by decide +kernel
theorem dL_law__865 : decode cL_law_ 865 = .ok (.aload_n 1, 1) := by decide +kernel
theorem dL_law__866 : decode cL_law_ 866 = .ok (.aload_n 0, 1) := by decide +kernel
theorem dL_law__867 : decode cL_law_ 867 = .ok (.iload 4, 2) := by decide +kernel
theorem dL_law__869 : decode cL_law_ 869 = .ok (.iconst 1, 1) := by decide +kernel
theorem dL_law__870 : decode cL_law_ 870 = .ok (.iadd, 1) := by decide +kernel
theorem dL_law__871 : decode cL_law_ 871 = .ok (.iaload, 1) := by decide +kernel
theorem dL_law__872 : decode cL_law_ 872 = .ok (.aload_n 3, 1) := by decide +kernel
theorem dL_law__873 : decode cL_law_ 873 = .ok (.invokestatic 164, 3) := by decide +kernel
theorem dL_law__876 : decode cL_law_ 876 = .ok (.istore 5, 2) := by decide +kernel
theorem dL_law__878 : decode cL_law_ 878 = .ok (.aload_n 2, 1) := by decide +kernel
theorem dL_law__879 : decode cL_law_ 879 = .ok (.aload_n 0, 1) := by decide +kernel
theorem dL_law__880 : decode cL_law_ 880 = .ok (.iload 4, 2) := by decide +kernel
theorem dL_law__882 : decode cL_law_ 882 = .ok (.iconst 1, 1) := by decide +kernel
theorem dL_law__883 : decode cL_law_ 883 = .ok (.iadd, 1) := by decide +kernel
