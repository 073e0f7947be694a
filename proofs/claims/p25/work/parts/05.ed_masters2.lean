theorem dL_masters_636 : decode cL_masters 636 = .ok (.iconst 2, 1) := by decide +kernel
theorem dL_masters_637 : decode cL_masters 637 = .ok (.iconst 0, 1) := by decide +kernel
theorem dL_masters_638 : decode cL_masters 638 = .ok (.bipush 8, 2) := by decide +kernel
theorem dL_masters_640 : decode cL_masters 640 = .ok (.iconst 2, 1) := by decide +kernel
theorem dL_masters_641 : decode cL_masters 641 = .ok (.bipush 9, 2) := by decide +kernel
theorem dL_masters_643 : decode cL_masters 643 = .ok (.invokestatic 98, 3) := by decide +kernel
theorem dL_masters_646 : decode cL_masters 646 = .ok (.bipush (-73), 2) := by decide +kernel
theorem dL_masters_648 : decode cL_masters 648 = .ok (.if_icmp .ne 46, 3) := by decide +kernel
theorem dL_masters_651 : decode cL_masters 651 = .ok (.aload_n 0, 1) := by decide +kernel
theorem dL_masters_652 : decode cL_masters 652 = .ok (.iconst 2, 1) := by decide +kernel
theorem dL_masters_653 : decode cL_masters 653 = .ok (.iconst 0, 1) := by decide +kernel
theorem dL_masters_654 : decode cL_masters 654 = .ok (.bipush 8, 2) := by decide +kernel
theorem dL_masters_656 : decode cL_masters 656 = .ok (.bipush 8, 2) := by decide +kernel
theorem dL_masters_658 : decode cL_masters 658 = .ok (.bipush 9, 2) := by decide +kernel
theorem dL_masters_660 : decode cL_masters 660 = .ok (.invokestatic 98, 3) := by decide +kernel
theorem dL_masters_663 : decode cL_masters 663 = .ok (.bipush (-73), 2) := by decide +kernel
theorem dL_masters_665 : decode cL_masters 665 = .ok (.if_icmp .ne 29, 3) := by decide +kernel
theorem dL_masters_668 : decode cL_masters 668 = .ok (.aload_n 0, 1) := by decide +kernel
theorem dL_masters_669 : decode cL_masters 669 = .ok (.iconst 3, 1) := by decide +kernel
theorem dL_masters_670 : decode cL_masters 670 = .ok (.iconst 0, 1) := by decide +kernel
theorem dL_masters_671 : decode cL_masters 671 = .ok (.bipush 8, 2) := by decide +kernel
theorem dL_masters_673 : decode cL_masters 673 = .ok (.iconst 0, 1) := by decide +kernel
theorem dL_masters_674 : decode cL_masters 674 = .ok (.iconst 0, 1) := by decide +kernel
theorem dL_masters_675 : decode cL_masters 675 = .ok (.invokestatic 98, 3) := by decide +kernel
theorem dL_masters_678 : decode cL_masters 678 = .ok (.bipush (-73), 2) := by decide +kernel
theorem dL_masters_680 : decode cL_masters 680 = .ok (.if_icmp .ne 14, 3) := by decide +kernel
theorem dL_masters_683 : decode cL_masters 683 = .ok (.aload_n 0, 1) := by decide +kernel
theorem dL_masters_684 : decode cL_masters 684 = .ok (.bipush 8, 2) := by decide +kernel
theorem dL_masters_686 : decode cL_masters 686 = .ok (.invokevirtual 44, 3) := by decide +kernel
theorem dL_masters_689 : decode cL_masters 689 = .ok (.bipush 6, 2) := by decide +kernel
theorem dL_masters_691 : decode cL_masters 691 = .ok (.if_icmp .eq 5, 3) := by decide +kernel
theorem dL_masters_694 : decode cL_masters 694 = .ok (.iconst 0, 1) := by decide +kernel
theorem dL_masters_695 : decode cL_masters 695 = .ok (.ireturn, 1) := by decide +kernel
theorem dL_masters_696 : decode cL_masters 696 = .ok (.aload_n 0, 1) := by decide +kernel
theorem dL_masters_697 : decode cL_masters 697 = .ok (.iconst 0, 1) := by decide +kernel
theorem dL_masters_698 : decode cL_masters 698 = .ok (.iconst 2, 1) := by decide +kernel
theorem dL_masters_699 : decode cL_masters 699 = .ok (.iconst 1, 1) := by decide +kernel
theorem dL_masters_700 : decode cL_masters 700 = .ok (.iconst 0, 1) := by decide +kernel
theorem dL_masters_701 : decode cL_masters 701 = .ok (.invokevirtual 26, 3) := by decide +kernel
theorem dL_masters_704 : decode cL_masters 704 = .ok (.bipush 11, 2) := by decide +kernel
theorem dL_masters_706 : decode cL_masters 706 = .ok (.if_icmp .ne 208, 3) := by decide +kernel
theorem dL_masters_709 : decode cL_masters 709 = .ok (.aload_n 0, 1) := by decide +kernel
theorem dL_masters_710 : decode cL_masters 710 = .ok (.iconst 0, 1) := by decide +kernel
theorem dL_masters_711 : decode cL_masters 711 = .ok (.iconst 2, 1) := by decide +kernel
theorem dL_masters_712 : decode cL_masters 712 = .ok (.bipush 52, 2) := by decide +kernel
theorem dL_masters_714 : decode cL_masters 714 = .ok (.iconst 0, 1) := by decide +kernel
theorem dL_masters_715 : decode cL_masters 715 = .ok (.invokevirtual 26, 3) := by decide +kernel
theorem dL_masters_718 : decode cL_masters 718 = .ok (.bipush 12, 2) := by decide +kernel
theorem dL_masters_720 : decode cL_masters 720 = .ok (.if_icmp .ne 194, 3) := by decide +kernel
theorem dL_masters_723 : decode cL_masters 723 = .ok (.aload_n 0, 1) := by decide +kernel
theorem dL_masters_724 : decode cL_masters 724 = .ok (.iconst 0, 1) := by decide +kernel
theorem dL_masters_725 : decode cL_masters 725 = .ok (.bipush 11, 2) := by decide +kernel
theorem dL_masters_727 : decode cL_masters 727 = .ok (.iconst 3, 1) := by decide +kernel
theorem dL_masters_728 : decode cL_masters 728 = .ok (.iconst 4, 1) := by decide +kernel
theorem dL_masters_729 : decode cL_masters 729 = .ok (.invokevirtual 30, 3) := by decide +kernel
theorem dL_masters_732 : decode cL_masters 732 = .ok (.iconst (-1), 1) := by decide +kernel
theorem dL_masters_733 : decode cL_masters 733 = .ok (.if_icmp .ne 181, 3) := by decide +kernel
theorem dL_masters_736 : decode cL_masters 736 = .ok (.aload_n 0, 1) := by decide +kernel
theorem dL_masters_737 : decode cL_masters 737 = .ok (.iconst 0, 1) := by decide +kernel
theorem dL_masters_738 : decode cL_masters 738 = .ok (.bipush 11, 2) := by decide +kernel
theorem dL_masters_740 : decode cL_masters 740 = .ok (.iconst 3, 1) := by decide +kernel
theorem dL_masters_741 : decode cL_masters 741 = .ok (.bipush 9, 2) := by decide +kernel
theorem dL_masters_743 : decode cL_masters 743 = .ok (.invokevirtual 30, 3) := by decide +kernel
theorem dL_masters_746 : decode cL_masters 746 = .ok (.iconst 4, 1) := by decide +kernel
theorem dL_masters_747 : decode cL_masters 747 = .ok (.if_icmp .ne 167, 3) := by decide +kernel
theorem dL_masters_750 : decode cL_masters 750 = .ok (.aload_n 0, 1) := by decide +kernel
theorem dL_masters_751 : decode cL_masters 751 = .ok (.iconst 0, 1) := by decide +kernel
theorem dL_masters_752 : decode cL_masters 752 = .ok (.bipush 11, 2) := by decide +kernel
theorem dL_masters_754 : decode cL_masters 754 = .ok (.iconst 3, 1) := by decide +kernel
theorem dL_masters_755 : decode cL_masters 755 = .ok (.invokevirtual 60, 3) := by decide +kernel
theorem dL_masters_758 : decode cL_masters 758 = .ok (.bipush 9, 2) := by decide +kernel
theorem dL_masters_760 : decode cL_masters 760 = .ok (.if_icmp .ne 154, 3) := by decide +kernel
theorem dL_masters_763 : decode cL_masters 763 = .ok (.aload_n 0, 1) := by decide +kernel
theorem dL_masters_764 : decode cL_masters 764 = .ok (.iconst 0, 1) := by decide +kernel
theorem dL_masters_765 : decode cL_masters 765 = .ok (.bipush 7, 2) := by decide +kernel
theorem dL_masters_767 : decode cL_masters 767 = .ok (.iconst 0, 1) := by decide +kernel
theorem dL_masters_768 : decode cL_masters 768 = .ok (.bipush 77, 2) := by decide +kernel
theorem dL_masters_770 : decode cL_masters 770 = .ok (.invokevirtual 33, 3) := by decide +kernel
theorem dL_masters_773 : decode cL_masters 773 = .ok (.iconst 1, 1) := by decide +kernel
theorem dL_masters_774 : decode cL_masters 774 = .ok (.if_icmp .ne 140, 3) := by decide +kernel
theorem dL_masters_777 : decode cL_masters 777 = .ok (.aload_n 0, 1) := by decide +kernel
theorem dL_masters_778 : decode cL_masters 778 = .ok (.iconst 0, 1) := by decide +kernel
theorem dL_masters_779 : decode cL_masters 779 = .ok (.bipush 7, 2) := by decide +kernel
theorem dL_masters_781 : decode cL_masters 781 = .ok (.iconst 1, 1) := by decide +kernel
theorem dL_masters_782 : decode cL_masters 782 = .ok (.iconst 2, 1) := by decide +kernel
theorem dL_masters_783 : decode cL_masters 783 = .ok (.invokevirtual 33, 3) := by decide +kernel
theorem dL_masters_786 : decode cL_masters 786 = .ok (.ifCond .ne 128, 3) := by decide +kernel
theorem dL_masters_789 : decode cL_masters 789 = .ok (.aload_n 0, 1) := by decide +kernel
theorem dL_masters_790 : decode cL_masters 790 = .ok (.invokevirtual 87, 3) := by decide +kernel
theorem dL_masters_793 : decode cL_masters 793 = .ok (.ifCond .ne 121, 3) := by decide +kernel
theorem dL_masters_796 : decode cL_masters 796 = .ok (.aload_n 0, 1) := by decide +kernel
theorem dL_masters_797 : decode cL_masters 797 = .ok (.iconst 3, 1) := by decide +kernel
theorem dL_masters_798 : decode cL_masters 798 = .ok (.iconst 0, 1) := by decide +kernel
theorem dL_masters_799 : decode cL_masters 799 = .ok (.iconst 2, 1) := by decide +kernel
theorem dL_masters_800 : decode cL_masters 800 = .ok (.iconst 0, 1) := by decide +kernel
theorem dL_masters_801 : decode cL_masters 801 = .ok (.iconst 0, 1) := by decide +kernel
theorem dL_masters_802 : decode cL_masters 802 = .ok (.invokestatic 98, 3) := by decide +kernel
theorem dL_masters_805 : decode cL_masters 805 = .ok (.bipush (-73), 2) := by decide +kernel
theorem dL_masters_807 : decode cL_masters 807 = .ok (.if_icmp .ne 107, 3) := by decide +kernel
theorem dL_masters_810 : decode cL_masters 810 = .ok (.aload_n 0, 1) := by decide +kernel
theorem dL_masters_811 : decode cL_masters 811 = .ok (.iconst 1, 1) := by decide +kernel
theorem dL_masters_812 : decode cL_masters 812 = .ok (.iconst 2, 1) := by decide +kernel
theorem dL_masters_813 : decode cL_masters 813 = .ok (.invokevirtual 36, 3) := by decide +kernel
theorem dL_masters_816 : decode cL_masters 816 = .ok (.bipush 6, 2) := by decide +kernel
theorem dL_masters_818 : decode cL_masters 818 = .ok (.if_icmp .ne 96, 3) := by decide +kernel
theorem dL_masters_821 : decode cL_masters 821 = .ok (.aload_n 0, 1) := by decide +kernel
theorem dL_masters_822 : decode cL_masters 822 = .ok (.bipush 15, 2) := by decide +kernel
theorem dL_masters_824 : decode cL_masters 824 = .ok (.invokevirtual 44, 3) := by decide +kernel
theorem dL_masters_827 : decode cL_masters 827 = .ok (.bipush 7, 2) := by decide +kernel
theorem dL_masters_829 : decode cL_masters 829 = .ok (.if_icmp .ne 85, 3) := by decide +kernel
theorem dL_masters_832 : decode cL_masters 832 = .ok (.aload_n 0, 1) := by decide +kernel
theorem dL_masters_833 : decode cL_masters 833 = .ok (.bipush 15, 2) := by decide +kernel
theorem dL_masters_835 : decode cL_masters 835 = .ok (.iconst 0, 1) := by decide +kernel
theorem dL_masters_836 : decode cL_masters 836 = .ok (.invokevirtual 40, 3) := by decide +kernel
theorem dL_masters_839 : decode cL_masters 839 = .ok (.ifCond .eq 75, 3) := by decide +kernel
theorem dL_masters_842 : decode cL_masters 842 = .ok (.aload_n 0, 1) := by decide +kernel
theorem dL_masters_843 : decode cL_masters 843 = .ok (.iconst 0, 1) := by decide +kernel
theorem dL_masters_844 : decode cL_masters 844 = .ok (.iconst 2, 1) := by decide +kernel
theorem dL_masters_845 : decode cL_masters 845 = .ok (.invokevirtual 51, 3) := by decide +kernel
theorem dL_masters_848 : decode cL_masters 848 = .ok (.ifCond .ne 66, 3) := by decide +kernel
theorem dL_masters_851 : decode cL_masters 851 = .ok (.aload_n 0, 1) := by decide +kernel
theorem dL_masters_852 : decode cL_masters 852 = .ok (.iconst 0, 1) := by decide +kernel
theorem dL_masters_853 : decode cL_masters 853 = .ok (.bipush 11, 2) := by decide +kernel
theorem dL_masters_855 : decode cL_masters 855 = .ok (.iconst 1, 1) := by decide +kernel
theorem dL_masters_856 : decode cL_masters 856 = .ok (.iconst (-1), 1) := by decide +kernel
theorem dL_masters_857 : decode cL_masters 857 = .ok (.invokestatic 112, 3) := by decide +kernel
theorem dL_masters_860 : decode cL_masters 860 = .ok (.ifCond .eq 54, 3) := by decide +kernel
theorem dL_masters_863 : decode cL_masters 863 = .ok (.aload_n 0, 1) := by decide +kernel
theorem dL_masters_864 : decode cL_masters 864 = .ok (.iconst 0, 1) := by decide +kernel
theorem dL_masters_865 : decode cL_masters 865 = .ok (.bipush 12, 2) := by decide +kernel
theorem dL_masters_867 : decode cL_masters 867 = .ok (.iconst 1, 1) := by decide +kernel
theorem dL_masters_868 : decode cL_masters 868 = .ok (.bipush 52, 2) := by decide +kernel
theorem dL_masters_870 : decode cL_masters 870 = .ok (.invokestatic 112, 3) := by decide +kernel
theorem dL_masters_873 : decode cL_masters 873 = .ok (.ifCond .eq 41, 3) := by decide +kernel
theorem dL_masters_876 : decode cL_masters 876 = .ok (.aload_n 0, 1) := by decide +kernel
theorem dL_masters_877 : decode cL_masters 877 = .ok (.iconst 0, 1) := by decide +kernel
theorem dL_masters_878 : decode cL_masters 878 = .ok (.bipush 7, 2) := by decide +kernel
theorem dL_masters_880 : decode cL_masters 880 = .ok (.iconst 1, 1) := by decide +kernel
theorem dL_masters_881 : decode cL_masters 881 = .ok (.iconst (-1), 1) := by decide +kernel
theorem dL_masters_882 : decode cL_masters 882 = .ok (.invokestatic 112, 3) := by decide +kernel
theorem dL_masters_885 : decode cL_masters 885 = .ok (.ifCond .eq 29, 3) := by decide +kernel
theorem dL_masters_888 : decode cL_masters 888 = .ok (.aload_n 0, 1) := by decide +kernel
theorem dL_masters_889 : decode cL_masters 889 = .ok (.iconst 0, 1) := by decide +kernel
theorem dL_masters_890 : decode cL_masters 890 = .ok (.bipush 11, 2) := by decide +kernel
theorem dL_masters_892 : decode cL_masters 892 = .ok (.iconst 3, 1) := by decide +kernel
theorem dL_masters_893 : decode cL_masters 893 = .ok (.invokevirtual 60, 3) := by decide +kernel
theorem dL_masters_896 : decode cL_masters 896 = .ok (.bipush 9, 2) := by decide +kernel
theorem dL_masters_898 : decode cL_masters 898 = .ok (.if_icmp .ne 16, 3) := by decide +kernel
theorem dL_masters_901 : decode cL_masters 901 = .ok (.aload_n 0, 1) := by decide +kernel
theorem dL_masters_902 : decode cL_masters 902 = .ok (.iconst 0, 1) := by decide +kernel
theorem dL_masters_903 : decode cL_masters 903 = .ok (.iconst 2, 1) := by decide +kernel
theorem dL_masters_904 : decode cL_masters 904 = .ok (.invokestatic 116, 3) := by decide +kernel
theorem dL_masters_907 : decode cL_masters 907 = .ok (.ifCond .eq 7, 3) := by decide +kernel
theorem dL_masters_910 : decode cL_masters 910 = .ok (.iconst 1, 1) := by decide +kernel
theorem dL_masters_911 : decode cL_masters 911 = .ok (.goto 4, 3) := by decide +kernel
theorem dL_masters_914 : decode cL_masters 914 = .ok (.iconst 0, 1) := by decide +kernel
theorem dL_masters_915 : decode cL_masters 915 = .ok (.ireturn, 1) := by decide +kernel
