theorem d_L_law_530 : decode code 530 = .ok (.aload_n 2, 1) := by decide +kernel
theorem d_L_law_531 : decode code 531 = .ok (.invokevirtual 75, 3) := by decide +kernel
theorem d_L_law_534 : decode code 534 = .ok (.iload 5, 2) := by decide +kernel
theorem d_L_law_536 : decode code 536 = .ok (.if_icmp .eq 5, 3) := by decide +kernel
theorem d_L_law_541 : decode code 541 = .ok (.iload 5, 2) := by decide +kernel
theorem d_L_law_543 : decode code 543 = .ok (.ifCond .ne 15, 3) := by decide +kernel
theorem d_L_law_558 : decode code 558 = .ok (.goto 495, 3) := by decide +kernel
theorem d_L_law_561 : decode code 561 = .ok (.aload_n 1, 1) := by decide +kernel
theorem d_L_law_562 : decode code 562 = .ok (.aload_n 0, 1) := by decide +kernel
theorem d_L_law_563 : decode code 563 = .ok (.iload 4, 2) := by decide +kernel
theorem d_L_law_565 : decode code 565 = .ok (.iconst 1, 1) := by decide +kernel
theorem d_L_law_566 : decode code 566 = .ok (.iadd, 1) := by decide +kernel
theorem d_L_law_567 : decode code 567 = .ok (.iaload, 1) := by decide +kernel
theorem d_L_law_568 : decode code 568 = .ok (.aload_n 0, 1) := by decide +kernel
theorem d_L_law_569 : decode code 569 = .ok (.iload 4, 2) := by decide +kernel
theorem d_L_law_571 : decode code 571 = .ok (.iconst 2, 1) := by decide +kernel
theorem d_L_law_572 : decode code 572 = .ok (.iadd, 1) := by decide +kernel
theorem d_L_law_573 : decode code 573 = .ok (.iaload, 1) := by decide +kernel
theorem d_L_law_574 : decode code 574 = .ok (.aload_n 3, 1) := by decide +kernel
theorem d_L_law_575 : decode code 575 = .ok (.invokestatic 101, 3) := by decide +kernel
theorem d_L_law_578 : decode code 578 = .ok (.istore 5, 2) := by decide +kernel
theorem d_L_law_580 : decode code 580 = .ok (.aload_n 2, 1) := by decide +kernel
theorem d_L_law_581 : decode code 581 = .ok (.aload_n 0, 1) := by decide +kernel
theorem d_L_law_582 : decode code 582 = .ok (.iload 4, 2) := by decide +kernel
theorem d_L_law_584 : decode code 584 = .ok (.iconst 1, 1) := by decide +kernel
theorem d_L_law_585 : decode code 585 = .ok (.iadd, 1) := by decide +kernel
theorem d_L_law_586 : decode code 586 = .ok (.iaload, 1) := by decide +kernel
theorem d_L_law_587 : decode code 587 = .ok (.aload_n 0, 1) := by decide +kernel
theorem d_L_law_588 : decode code 588 = .ok (.iload 4, 2) := by decide +kernel
theorem d_L_law_590 : decode code 590 = .ok (.iconst 2, 1) := by decide +kernel
theorem d_L_law_591 : decode code 591 = .ok (.iadd, 1) := by decide +kernel
theorem d_L_law_592 : decode code 592 = .ok (.iaload, 1) := by decide +kernel
theorem d_L_law_593 : decode code 593 = .ok (.invokevirtual 103, 3) := by decide +kernel
theorem d_L_law_596 : decode code 596 = .ok (.istore 6, 2) := by decide +kernel
theorem d_L_law_598 : decode code 598 = .ok (.aload_n 2, 1) := by decide +kernel
theorem d_L_law_599 : decode code 599 = .ok (.invokevirtual 75, 3) := by decide +kernel
theorem d_L_law_602 : decode code 602 = .ok (.iload 5, 2) := by decide +kernel
theorem d_L_law_604 : decode code 604 = .ok (.if_icmp .eq 5, 3) := by decide +kernel
theorem d_L_law_609 : decode code 609 = .ok (.iload 5, 2) := by decide +kernel
theorem d_L_law_611 : decode code 611 = .ok (.ifCond .ne 15, 3) := by decide +kernel
theorem d_L_law_626 : decode code 626 = .ok (.goto 427, 3) := by decide +kernel
theorem d_L_law_629 : decode code 629 = .ok (.aload_n 1, 1) := by decide +kernel
theorem d_L_law_630 : decode code 630 = .ok (.aload_n 0, 1) := by decide +kernel
theorem d_L_law_631 : decode code 631 = .ok (.iload 4, 2) := by decide +kernel
theorem d_L_law_633 : decode code 633 = .ok (.iconst 1, 1) := by decide +kernel
theorem d_L_law_634 : decode code 634 = .ok (.iadd, 1) := by decide +kernel
theorem d_L_law_635 : decode code 635 = .ok (.iaload, 1) := by decide +kernel
theorem d_L_law_636 : decode code 636 = .ok (.aload_n 0, 1) := by decide +kernel
theorem d_L_law_637 : decode code 637 = .ok (.iload 4, 2) := by decide +kernel
theorem d_L_law_639 : decode code 639 = .ok (.iconst 2, 1) := by decide +kernel
theorem d_L_law_640 : decode code 640 = .ok (.iadd, 1) := by decide +kernel
theorem d_L_law_641 : decode code 641 = .ok (.iaload, 1) := by decide +kernel
theorem d_L_law_642 : decode code 642 = .ok (.aload_n 0, 1) := by decide +kernel
theorem d_L_law_643 : decode code 643 = .ok (.iload 4, 2) := by decide +kernel
theorem d_L_law_645 : decode code 645 = .ok (.iconst 3, 1) := by decide +kernel
theorem d_L_law_646 : decode code 646 = .ok (.iadd, 1) := by decide +kernel
theorem d_L_law_647 : decode code 647 = .ok (.iaload, 1) := by decide +kernel
theorem d_L_law_648 : decode code 648 = .ok (.aload_n 0, 1) := by decide +kernel
theorem d_L_law_649 : decode code 649 = .ok (.iload 4, 2) := by decide +kernel
theorem d_L_law_651 : decode code 651 = .ok (.iconst 4, 1) := by decide +kernel
theorem d_L_law_652 : decode code 652 = .ok (.iadd, 1) := by decide +kernel
theorem d_L_law_653 : decode code 653 = .ok (.iaload, 1) := by decide +kernel
theorem d_L_law_654 : decode code 654 = .ok (.aload_n 0, 1) := by decide +kernel
theorem d_L_law_655 : decode code 655 = .ok (.iload 4, 2) := by decide +kernel
theorem d_L_law_657 : decode code 657 = .ok (.iconst 5, 1) := by decide +kernel
theorem d_L_law_658 : decode code 658 = .ok (.iadd, 1) := by decide +kernel
theorem d_L_law_659 : decode code 659 = .ok (.iaload, 1) := by decide +kernel
theorem d_L_law_660 : decode code 660 = .ok (.aload_n 3, 1) := by decide +kernel
theorem d_L_law_661 : decode code 661 = .ok (.invokestatic 104, 3) := by decide +kernel
theorem d_L_law_664 : decode code 664 = .ok (.istore 5, 2) := by decide +kernel
theorem d_L_law_666 : decode code 666 = .ok (.aload_n 2, 1) := by decide +kernel
theorem d_L_law_667 : decode code 667 = .ok (.aload_n 0, 1) := by decide +kernel
theorem d_L_law_668 : decode code 668 = .ok (.iload 4, 2) := by decide +kernel
theorem d_L_law_670 : decode code 670 = .ok (.iconst 1, 1) := by decide +kernel
theorem d_L_law_671 : decode code 671 = .ok (.iadd, 1) := by decide +kernel
theorem d_L_law_672 : decode code 672 = .ok (.iaload, 1) := by decide +kernel
theorem d_L_law_673 : decode code 673 = .ok (.aload_n 0, 1) := by decide +kernel
theorem d_L_law_674 : decode code 674 = .ok (.iload 4, 2) := by decide +kernel
theorem d_L_law_676 : decode code 676 = .ok (.iconst 2, 1) := by decide +kernel
theorem d_L_law_677 : decode code 677 = .ok (.iadd, 1) := by decide +kernel
theorem d_L_law_678 : decode code 678 = .ok (.iaload, 1) := by decide +kernel
theorem d_L_law_679 : decode code 679 = .ok (.aload_n 0, 1) := by decide +kernel
theorem d_L_law_680 : decode code 680 = .ok (.iload 4, 2) := by decide +kernel
theorem d_L_law_682 : decode code 682 = .ok (.iconst 3, 1) := by decide +kernel
theorem d_L_law_683 : decode code 683 = .ok (.iadd, 1) := by decide +kernel
theorem d_L_law_684 : decode code 684 = .ok (.iaload, 1) := by decide +kernel
theorem d_L_law_685 : decode code 685 = .ok (.aload_n 0, 1) := by decide +kernel
theorem d_L_law_686 : decode code 686 = .ok (.iload 4, 2) := by decide +kernel
theorem d_L_law_688 : decode code 688 = .ok (.iconst 4, 1) := by decide +kernel
theorem d_L_law_689 : decode code 689 = .ok (.iadd, 1) := by decide +kernel
theorem d_L_law_690 : decode code 690 = .ok (.iaload, 1) := by decide +kernel
theorem d_L_law_691 : decode code 691 = .ok (.aload_n 0, 1) := by decide +kernel
theorem d_L_law_692 : decode code 692 = .ok (.iload 4, 2) := by decide +kernel
theorem d_L_law_694 : decode code 694 = .ok (.iconst 5, 1) := by decide +kernel
theorem d_L_law_695 : decode code 695 = .ok (.iadd, 1) := by decide +kernel
theorem d_L_law_696 : decode code 696 = .ok (.iaload, 1) := by decide +kernel
theorem d_L_law_697 : decode code 697 = .ok (.invokevirtual 107, 3) := by decide +kernel
theorem d_L_law_700 : decode code 700 = .ok (.istore 6, 2) := by decide +kernel
theorem d_L_law_702 : decode code 702 = .ok (.aload_n 2, 1) := by decide +kernel
theorem d_L_law_703 : decode code 703 = .ok (.invokevirtual 75, 3) := by decide +kernel
theorem d_L_law_706 : decode code 706 = .ok (.iload 5, 2) := by decide +kernel
theorem d_L_law_708 : decode code 708 = .ok (.if_icmp .eq 5, 3) := by decide +kernel
theorem d_L_law_713 : decode code 713 = .ok (.iload 5, 2) := by decide +kernel
theorem d_L_law_715 : decode code 715 = .ok (.ifCond .ne 15, 3) := by decide +kernel
theorem d_L_law_730 : decode code 730 = .ok (.goto 323, 3) := by decide +kernel
theorem d_L_law_733 : decode code 733 = .ok (.aload_n 1, 1) := by decide +kernel
theorem d_L_law_734 : decode code 734 = .ok (.invokevirtual 108, 3) := by decide +kernel
theorem d_L_law_737 : decode code 737 = .ok (.aload_n 2, 1) := by decide +kernel
theorem d_L_law_738 : decode code 738 = .ok (.invokevirtual 111, 3) := by decide +kernel
theorem d_L_law_741 : decode code 741 = .ok (.goto 312, 3) := by decide +kernel
theorem d_L_law_744 : decode code 744 = .ok (.aload_n 1, 1) := by decide +kernel
theorem d_L_law_745 : decode code 745 = .ok (.aload_n 0, 1) := by decide +kernel
theorem d_L_law_746 : decode code 746 = .ok (.iload 4, 2) := by decide +kernel
theorem d_L_law_748 : decode code 748 = .ok (.iconst 1, 1) := by decide +kernel
theorem d_L_law_749 : decode code 749 = .ok (.iadd, 1) := by decide +kernel
theorem d_L_law_750 : decode code 750 = .ok (.iaload, 1) := by decide +kernel
theorem d_L_law_751 : decode code 751 = .ok (.aload_n 0, 1) := by decide +kernel
theorem d_L_law_752 : decode code 752 = .ok (.iload 4, 2) := by decide +kernel
theorem d_L_law_754 : decode code 754 = .ok (.iconst 2, 1) := by decide +kernel
theorem d_L_law_755 : decode code 755 = .ok (.iadd, 1) := by decide +kernel
theorem d_L_law_756 : decode code 756 = .ok (.iaload, 1) := by decide +kernel
theorem d_L_law_757 : decode code 757 = .ok (.invokestatic 112, 3) := by decide +kernel
theorem d_L_law_760 : decode code 760 = .ok (.istore 5, 2) := by decide +kernel
theorem d_L_law_762 : decode code 762 = .ok (.aload_n 2, 1) := by decide +kernel
theorem d_L_law_763 : decode code 763 = .ok (.aload_n 0, 1) := by decide +kernel
theorem d_L_law_764 : decode code 764 = .ok (.iload 4, 2) := by decide +kernel
theorem d_L_law_766 : decode code 766 = .ok (.iconst 1, 1) := by decide +kernel
theorem d_L_law_767 : decode code 767 = .ok (.iadd, 1) := by decide +kernel
theorem d_L_law_768 : decode code 768 = .ok (.iaload, 1) := by decide +kernel
theorem d_L_law_769 : decode code 769 = .ok (.aload_n 0, 1) := by decide +kernel
theorem d_L_law_770 : decode code 770 = .ok (.iload 4, 2) := by decide +kernel
theorem d_L_law_772 : decode code 772 = .ok (.iconst 2, 1) := by decide +kernel
theorem d_L_law_773 : decode code 773 = .ok (.iadd, 1) := by decide +kernel
theorem d_L_law_774 : decode code 774 = .ok (.iaload, 1) := by decide +kernel
theorem d_L_law_775 : decode code 775 = .ok (.invokevirtual 115, 3) := by decide +kernel
theorem d_L_law_778 : decode code 778 = .ok (.aload_n 2, 1) := by decide +kernel
theorem d_L_law_779 : decode code 779 = .ok (.invokevirtual 75, 3) := by decide +kernel
theorem d_L_law_782 : decode code 782 = .ok (.iload 5, 2) := by decide +kernel
theorem d_L_law_784 : decode code 784 = .ok (.if_icmp .eq 5, 3) := by decide +kernel
theorem d_L_law_789 : decode code 789 = .ok (.goto 264, 3) := by decide +kernel
theorem d_L_law_792 : decode code 792 = .ok (.aload_n 1, 1) := by decide +kernel
theorem d_L_law_793 : decode code 793 = .ok (.aload_n 0, 1) := by decide +kernel
theorem d_L_law_794 : decode code 794 = .ok (.iload 4, 2) := by decide +kernel
theorem d_L_law_796 : decode code 796 = .ok (.iconst 1, 1) := by decide +kernel
theorem d_L_law_797 : decode code 797 = .ok (.iadd, 1) := by decide +kernel
theorem d_L_law_798 : decode code 798 = .ok (.iaload, 1) := by decide +kernel
theorem d_L_law_799 : decode code 799 = .ok (.invokestatic 116, 3) := by decide +kernel
theorem d_L_law_802 : decode code 802 = .ok (.istore 5, 2) := by decide +kernel
theorem d_L_law_804 : decode code 804 = .ok (.aload_n 2, 1) := by decide +kernel
theorem d_L_law_805 : decode code 805 = .ok (.aload_n 0, 1) := by decide +kernel
theorem d_L_law_806 : decode code 806 = .ok (.iload 4, 2) := by decide +kernel
theorem d_L_law_808 : decode code 808 = .ok (.iconst 1, 1) := by decide +kernel
theorem d_L_law_809 : decode code 809 = .ok (.iadd, 1) := by decide +kernel
theorem d_L_law_810 : decode code 810 = .ok (.iaload, 1) := by decide +kernel
theorem d_L_law_811 : decode code 811 = .ok (.invokevirtual 119, 3) := by decide +kernel
theorem d_L_law_814 : decode code 814 = .ok (.aload_n 2, 1) := by decide +kernel
theorem d_L_law_815 : decode code 815 = .ok (.invokevirtual 75, 3) := by decide +kernel
theorem d_L_law_818 : decode code 818 = .ok (.iload 5, 2) := by decide +kernel
theorem d_L_law_820 : decode code 820 = .ok (.if_icmp .eq 5, 3) := by decide +kernel
theorem d_L_law_825 : decode code 825 = .ok (.goto 228, 3) := by decide +kernel
theorem d_L_law_828 : decode code 828 = .ok (.aload_n 1, 1) := by decide +kernel
theorem d_L_law_829 : decode code 829 = .ok (.aload_n 0, 1) := by decide +kernel
theorem d_L_law_830 : decode code 830 = .ok (.iload 4, 2) := by decide +kernel
theorem d_L_law_832 : decode code 832 = .ok (.iconst 1, 1) := by decide +kernel
theorem d_L_law_833 : decode code 833 = .ok (.iadd, 1) := by decide +kernel
theorem d_L_law_834 : decode code 834 = .ok (.iaload, 1) := by decide +kernel
theorem d_L_law_835 : decode code 835 = .ok (.aload_n 3, 1) := by decide +kernel
theorem d_L_law_836 : decode code 836 = .ok (.invokestatic 120, 3) := by decide +kernel
theorem d_L_law_839 : decode code 839 = .ok (.istore 5, 2) := by decide +kernel
theorem d_L_law_841 : decode code 841 = .ok (.aload_n 2, 1) := by decide +kernel
theorem d_L_law_842 : decode code 842 = .ok (.aload_n 0, 1) := by decide +kernel
theorem d_L_law_843 : decode code 843 = .ok (.iload 4, 2) := by decide +kernel
theorem d_L_law_845 : decode code 845 = .ok (.iconst 1, 1) := by decide +kernel
theorem d_L_law_846 : decode code 846 = .ok (.iadd, 1) := by decide +kernel
theorem d_L_law_847 : decode code 847 = .ok (.iaload, 1) := by decide +kernel
theorem d_L_law_848 : decode code 848 = .ok (.invokevirtual 122, 3) := by decide +kernel
theorem d_L_law_851 : decode code 851 = .ok (.istore 6, 2) := by decide +kernel
theorem d_L_law_853 : decode code 853 = .ok (.aload_n 2, 1) := by decide +kernel
theorem d_L_law_854 : decode code 854 = .ok (.invokevirtual 75, 3) := by decide +kernel
theorem d_L_law_857 : decode code 857 = .ok (.iload 5, 2) := by decide +kernel
theorem d_L_law_859 : decode code 859 = .ok (.if_icmp .eq 5, 3) := by decide +kernel
theorem d_L_law_864 : decode code 864 = .ok (.iload 5, 2) := by decide +kernel
theorem d_L_law_866 : decode code 866 = .ok (.ifCond .ne 15, 3) := by decide +kernel
theorem d_L_law_881 : decode code 881 = .ok (.goto 172, 3) := by decide +kernel
theorem d_L_law_884 : decode code 884 = .ok (.aload_n 1, 1) := by decide +kernel
theorem d_L_law_885 : decode code 885 = .ok (.invokevirtual 123, 3) := by decide +kernel
theorem d_L_law_888 : decode code 888 = .ok (.aload_n 2, 1) := by decide +kernel
theorem d_L_law_889 : decode code 889 = .ok (.invokevirtual 126, 3) := by decide +kernel
theorem d_L_law_892 : decode code 892 = .ok (.if_icmp .eq 161, 3) := by decide +kernel
theorem d_L_law_897 : decode code 897 = .ok (.aload_n 1, 1) := by decide +kernel
theorem d_L_law_898 : decode code 898 = .ok (.invokevirtual 127, 3) := by decide +kernel
theorem d_L_law_901 : decode code 901 = .ok (.aload_n 2, 1) := by decide +kernel
theorem d_L_law_902 : decode code 902 = .ok (.invokevirtual 130, 3) := by decide +kernel
theorem d_L_law_905 : decode code 905 = .ok (.if_icmp .eq 148, 3) := by decide +kernel
theorem d_L_law_910 : decode code 910 = .ok (.aload_n 1, 1) := by decide +kernel
theorem d_L_law_911 : decode code 911 = .ok (.aload_n 0, 1) := by decide +kernel
theorem d_L_law_912 : decode code 912 = .ok (.iload 4, 2) := by decide +kernel
theorem d_L_law_914 : decode code 914 = .ok (.iconst 1, 1) := by decide +kernel
theorem d_L_law_915 : decode code 915 = .ok (.iadd, 1) := by decide +kernel
theorem d_L_law_916 : decode code 916 = .ok (.iaload, 1) := by decide +kernel
