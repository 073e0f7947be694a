theorem dL_refuses_649 : decode cL_refuses 649 = .ok (.iconst 0, 1) := by decide +kernel
theorem dL_refuses_650 : decode cL_refuses 650 = .ok (.invokestatic 98, 3) := by decide +kernel
theorem dL_refuses_653 : decode cL_refuses 653 = .ok (.bipush (-72), 2) := by decide +kernel
theorem dL_refuses_655 : decode cL_refuses 655 = .ok (.if_icmp .ne 138, 3) := by decide +kernel
theorem dL_refuses_658 : decode cL_refuses 658 = .ok (.aload_n 0, 1) := by decide +kernel
theorem dL_refuses_659 : decode cL_refuses 659 = .ok (.iload 13, 2) := by decide +kernel
theorem dL_refuses_661 : decode cL_refuses 661 = .ok (.iconst 0, 1) := by decide +kernel
theorem dL_refuses_662 : decode cL_refuses 662 = .ok (.iconst 5, 1) := by decide +kernel
theorem dL_refuses_663 : decode cL_refuses 663 = .ok (.invokestatic 102, 3) := by decide +kernel
theorem dL_refuses_666 : decode cL_refuses 666 = .ok (.bipush (-71), 2) := by decide +kernel
theorem dL_refuses_668 : decode cL_refuses 668 = .ok (.if_icmp .ne 125, 3) := by decide +kernel
theorem dL_refuses_671 : decode cL_refuses 671 = .ok (.aload_n 0, 1) := by decide +kernel
theorem dL_refuses_672 : decode cL_refuses 672 = .ok (.iconst 0, 1) := by decide +kernel
theorem dL_refuses_673 : decode cL_refuses 673 = .ok (.iload 8, 2) := by decide +kernel
theorem dL_refuses_675 : decode cL_refuses 675 = .ok (.iconst 1, 1) := by decide +kernel
theorem dL_refuses_676 : decode cL_refuses 676 = .ok (.if_icmp .ne 8, 3) := by decide +kernel
theorem dL_refuses_679 : decode cL_refuses 679 = .ok (.bipush 42, 2) := by decide +kernel
theorem dL_refuses_681 : decode cL_refuses 681 = .ok (.goto 5, 3) := by decide +kernel
theorem dL_refuses_684 : decode cL_refuses 684 = .ok (.iload 9, 2) := by decide +kernel
theorem dL_refuses_686 : decode cL_refuses 686 = .ok (.iconst 5, 1) := by decide +kernel
theorem dL_refuses_687 : decode cL_refuses 687 = .ok (.invokestatic 102, 3) := by decide +kernel
theorem dL_refuses_690 : decode cL_refuses 690 = .ok (.bipush (-71), 2) := by decide +kernel
theorem dL_refuses_692 : decode cL_refuses 692 = .ok (.if_icmp .ne 101, 3) := by decide +kernel
theorem dL_refuses_695 : decode cL_refuses 695 = .ok (.aload_n 0, 1) := by decide +kernel
theorem dL_refuses_696 : decode cL_refuses 696 = .ok (.iconst 0, 1) := by decide +kernel
theorem dL_refuses_697 : decode cL_refuses 697 = .ok (.iconst 0, 1) := by decide +kernel
theorem dL_refuses_698 : decode cL_refuses 698 = .ok (.iload 8, 2) := by decide +kernel
theorem dL_refuses_700 : decode cL_refuses 700 = .ok (.iconst 1, 1) := by decide +kernel
theorem dL_refuses_701 : decode cL_refuses 701 = .ok (.if_icmp .ne 7, 3) := by decide +kernel
theorem dL_refuses_704 : decode cL_refuses 704 = .ok (.iconst 2, 1) := by decide +kernel
theorem dL_refuses_705 : decode cL_refuses 705 = .ok (.goto 5, 3) := by decide +kernel
theorem dL_refuses_708 : decode cL_refuses 708 = .ok (.iload 10, 2) := by decide +kernel
theorem dL_refuses_710 : decode cL_refuses 710 = .ok (.invokestatic 102, 3) := by decide +kernel
theorem dL_refuses_713 : decode cL_refuses 713 = .ok (.bipush (-72), 2) := by decide +kernel
theorem dL_refuses_715 : decode cL_refuses 715 = .ok (.if_icmp .ne 78, 3) := by decide +kernel
theorem dL_refuses_718 : decode cL_refuses 718 = .ok (.aload_n 0, 1) := by decide +kernel
theorem dL_refuses_719 : decode cL_refuses 719 = .ok (.iload 8, 2) := by decide +kernel
theorem dL_refuses_721 : decode cL_refuses 721 = .ok (.iconst 1, 1) := by decide +kernel
theorem dL_refuses_722 : decode cL_refuses 722 = .ok (.if_icmp .ne 8, 3) := by decide +kernel
theorem dL_refuses_725 : decode cL_refuses 725 = .ok (.bipush 42, 2) := by decide +kernel
theorem dL_refuses_727 : decode cL_refuses 727 = .ok (.goto 5, 3) := by decide +kernel
theorem dL_refuses_730 : decode cL_refuses 730 = .ok (.iload 9, 2) := by decide +kernel
theorem dL_refuses_732 : decode cL_refuses 732 = .ok (.iconst 1, 1) := by decide +kernel
theorem dL_refuses_733 : decode cL_refuses 733 = .ok (.invokestatic 105, 3) := by decide +kernel
theorem dL_refuses_736 : decode cL_refuses 736 = .ok (.bipush (-71), 2) := by decide +kernel
theorem dL_refuses_738 : decode cL_refuses 738 = .ok (.if_icmp .ne 55, 3) := by decide +kernel
theorem dL_refuses_741 : decode cL_refuses 741 = .ok (.aload_n 0, 1) := by decide +kernel
theorem dL_refuses_742 : decode cL_refuses 742 = .ok (.bipush 13, 2) := by decide +kernel
theorem dL_refuses_744 : decode cL_refuses 744 = .ok (.iload 13, 2) := by decide +kernel
theorem dL_refuses_746 : decode cL_refuses 746 = .ok (.iconst 0, 1) := by decide +kernel
theorem dL_refuses_747 : decode cL_refuses 747 = .ok (.iconst 0, 1) := by decide +kernel
theorem dL_refuses_748 : decode cL_refuses 748 = .ok (.iconst 0, 1) := by decide +kernel
theorem dL_refuses_749 : decode cL_refuses 749 = .ok (.invokestatic 98, 3) := by decide +kernel
theorem dL_refuses_752 : decode cL_refuses 752 = .ok (.bipush (-72), 2) := by decide +kernel
theorem dL_refuses_754 : decode cL_refuses 754 = .ok (.if_icmp .ne 39, 3) := by decide +kernel
theorem dL_refuses_757 : decode cL_refuses 757 = .ok (.aload_n 0, 1) := by decide +kernel
theorem dL_refuses_758 : decode cL_refuses 758 = .ok (.bipush 13, 2) := by decide +kernel
theorem dL_refuses_760 : decode cL_refuses 760 = .ok (.iconst 0, 1) := by decide +kernel
theorem dL_refuses_761 : decode cL_refuses 761 = .ok (.iload 14, 2) := by decide +kernel
theorem dL_refuses_763 : decode cL_refuses 763 = .ok (.iconst 0, 1) := by decide +kernel
theorem dL_refuses_764 : decode cL_refuses 764 = .ok (.iconst 0, 1) := by decide +kernel
theorem dL_refuses_765 : decode cL_refuses 765 = .ok (.invokestatic 98, 3) := by decide +kernel
theorem dL_refuses_768 : decode cL_refuses 768 = .ok (.bipush (-72), 2) := by decide +kernel
theorem dL_refuses_770 : decode cL_refuses 770 = .ok (.if_icmp .ne 23, 3) := by decide +kernel
theorem dL_refuses_773 : decode cL_refuses 773 = .ok (.aload_n 0, 1) := by decide +kernel
theorem dL_refuses_774 : decode cL_refuses 774 = .ok (.bipush 13, 2) := by decide +kernel
theorem dL_refuses_776 : decode cL_refuses 776 = .ok (.iconst 0, 1) := by decide +kernel
theorem dL_refuses_777 : decode cL_refuses 777 = .ok (.iconst 0, 1) := by decide +kernel
theorem dL_refuses_778 : decode cL_refuses 778 = .ok (.iload 17, 2) := by decide +kernel
theorem dL_refuses_780 : decode cL_refuses 780 = .ok (.iconst 0, 1) := by decide +kernel
theorem dL_refuses_781 : decode cL_refuses 781 = .ok (.invokestatic 98, 3) := by decide +kernel
theorem dL_refuses_784 : decode cL_refuses 784 = .ok (.bipush (-72), 2) := by decide +kernel
theorem dL_refuses_786 : decode cL_refuses 786 = .ok (.if_icmp .ne 7, 3) := by decide +kernel
theorem dL_refuses_789 : decode cL_refuses 789 = .ok (.iconst 1, 1) := by decide +kernel
theorem dL_refuses_790 : decode cL_refuses 790 = .ok (.goto 4, 3) := by decide +kernel
theorem dL_refuses_793 : decode cL_refuses 793 = .ok (.iconst 0, 1) := by decide +kernel
theorem dL_refuses_794 : decode cL_refuses 794 = .ok (.istore 19, 2) := by decide +kernel
theorem dL_refuses_796 : decode cL_refuses 796 = .ok (.bipush 8, 2) := by decide +kernel
theorem dL_refuses_798 : decode cL_refuses 798 = .ok (.istore 20, 2) := by decide +kernel
theorem dL_refuses_800 : decode cL_refuses 800 = .ok (.iload 20, 2) := by decide +kernel
theorem dL_refuses_802 : decode cL_refuses 802 = .ok (.bipush 13, 2) := by decide +kernel
theorem dL_refuses_804 : decode cL_refuses 804 = .ok (.if_icmp .ge 53, 3) := by decide +kernel
theorem dL_refuses_807 : decode cL_refuses 807 = .ok (.iload 19, 2) := by decide +kernel
theorem dL_refuses_809 : decode cL_refuses 809 = .ok (.ifCond .eq 39, 3) := by decide +kernel
theorem dL_refuses_812 : decode cL_refuses 812 = .ok (.aload_n 0, 1) := by decide +kernel
theorem dL_refuses_813 : decode cL_refuses 813 = .ok (.iload 20, 2) := by decide +kernel
theorem dL_refuses_815 : decode cL_refuses 815 = .ok (.iload 11, 2) := by decide +kernel
theorem dL_refuses_817 : decode cL_refuses 817 = .ok (.iconst 0, 1) := by decide +kernel
theorem dL_refuses_818 : decode cL_refuses 818 = .ok (.iconst 0, 1) := by decide +kernel
theorem dL_refuses_819 : decode cL_refuses 819 = .ok (.iconst 0, 1) := by decide +kernel
theorem dL_refuses_820 : decode cL_refuses 820 = .ok (.invokestatic 98, 3) := by decide +kernel
theorem dL_refuses_823 : decode cL_refuses 823 = .ok (.bipush (-71), 2) := by decide +kernel
theorem dL_refuses_825 : decode cL_refuses 825 = .ok (.if_icmp .ne 23, 3) := by decide +kernel
theorem dL_refuses_828 : decode cL_refuses 828 = .ok (.aload_n 0, 1) := by decide +kernel
theorem dL_refuses_829 : decode cL_refuses 829 = .ok (.iload 20, 2) := by decide +kernel
theorem dL_refuses_831 : decode cL_refuses 831 = .ok (.iconst 0, 1) := by decide +kernel
theorem dL_refuses_832 : decode cL_refuses 832 = .ok (.iload 12, 2) := by decide +kernel
theorem dL_refuses_834 : decode cL_refuses 834 = .ok (.iconst 0, 1) := by decide +kernel
theorem dL_refuses_835 : decode cL_refuses 835 = .ok (.iconst 0, 1) := by decide +kernel
theorem dL_refuses_836 : decode cL_refuses 836 = .ok (.invokestatic 98, 3) := by decide +kernel
theorem dL_refuses_839 : decode cL_refuses 839 = .ok (.bipush (-71), 2) := by decide +kernel
theorem dL_refuses_841 : decode cL_refuses 841 = .ok (.if_icmp .ne 7, 3) := by decide +kernel
theorem dL_refuses_844 : decode cL_refuses 844 = .ok (.iconst 1, 1) := by decide +kernel
theorem dL_refuses_845 : decode cL_refuses 845 = .ok (.goto 4, 3) := by decide +kernel
theorem dL_refuses_848 : decode cL_refuses 848 = .ok (.iconst 0, 1) := by decide +kernel
theorem dL_refuses_849 : decode cL_refuses 849 = .ok (.istore 19, 2) := by decide +kernel
theorem dL_refuses_851 : decode cL_refuses 851 = .ok (.iinc 20 1, 3) := by decide +kernel
theorem dL_refuses_854 : decode cL_refuses 854 = .ok (.goto (-54), 3) := by decide +kernel
theorem dL_refuses_857 : decode cL_refuses 857 = .ok (.iload 19, 2) := by decide +kernel
theorem dL_refuses_859 : decode cL_refuses 859 = .ok (.ifCond .eq 243, 3) := by decide +kernel
theorem dL_refuses_862 : decode cL_refuses 862 = .ok (.aload_n 0, 1) := by decide +kernel
theorem dL_refuses_863 : decode cL_refuses 863 = .ok (.bipush 14, 2) := by decide +kernel
theorem dL_refuses_865 : decode cL_refuses 865 = .ok (.iconst 5, 1) := by decide +kernel
theorem dL_refuses_866 : decode cL_refuses 866 = .ok (.iload 18, 2) := by decide +kernel
theorem dL_refuses_868 : decode cL_refuses 868 = .ok (.iconst 0, 1) := by decide +kernel
theorem dL_refuses_869 : decode cL_refuses 869 = .ok (.iconst 0, 1) := by decide +kernel
theorem dL_refuses_870 : decode cL_refuses 870 = .ok (.invokestatic 98, 3) := by decide +kernel
theorem dL_refuses_873 : decode cL_refuses 873 = .ok (.bipush (-71), 2) := by decide +kernel
theorem dL_refuses_875 : decode cL_refuses 875 = .ok (.if_icmp .ne 227, 3) := by decide +kernel
theorem dL_refuses_878 : decode cL_refuses 878 = .ok (.aload_n 0, 1) := by decide +kernel
theorem dL_refuses_879 : decode cL_refuses 879 = .ok (.bipush 14, 2) := by decide +kernel
theorem dL_refuses_881 : decode cL_refuses 881 = .ok (.iconst 5, 1) := by decide +kernel
theorem dL_refuses_882 : decode cL_refuses 882 = .ok (.iconst 0, 1) := by decide +kernel
theorem dL_refuses_883 : decode cL_refuses 883 = .ok (.iload 18, 2) := by decide +kernel
theorem dL_refuses_885 : decode cL_refuses 885 = .ok (.iconst 0, 1) := by decide +kernel
theorem dL_refuses_886 : decode cL_refuses 886 = .ok (.invokestatic 98, 3) := by decide +kernel
theorem dL_refuses_889 : decode cL_refuses 889 = .ok (.bipush (-71), 2) := by decide +kernel
theorem dL_refuses_891 : decode cL_refuses 891 = .ok (.if_icmp .ne 211, 3) := by decide +kernel
theorem dL_refuses_894 : decode cL_refuses 894 = .ok (.aload_n 0, 1) := by decide +kernel
theorem dL_refuses_895 : decode cL_refuses 895 = .ok (.bipush 15, 2) := by decide +kernel
theorem dL_refuses_897 : decode cL_refuses 897 = .ok (.iconst 0, 1) := by decide +kernel
theorem dL_refuses_898 : decode cL_refuses 898 = .ok (.iload 18, 2) := by decide +kernel
theorem dL_refuses_900 : decode cL_refuses 900 = .ok (.iconst 0, 1) := by decide +kernel
theorem dL_refuses_901 : decode cL_refuses 901 = .ok (.iconst 0, 1) := by decide +kernel
theorem dL_refuses_902 : decode cL_refuses 902 = .ok (.invokestatic 98, 3) := by decide +kernel
theorem dL_refuses_905 : decode cL_refuses 905 = .ok (.bipush (-71), 2) := by decide +kernel
theorem dL_refuses_907 : decode cL_refuses 907 = .ok (.if_icmp .ne 195, 3) := by decide +kernel
theorem dL_refuses_910 : decode cL_refuses 910 = .ok (.aload_n 0, 1) := by decide +kernel
theorem dL_refuses_911 : decode cL_refuses 911 = .ok (.iconst 0, 1) := by decide +kernel
theorem dL_refuses_912 : decode cL_refuses 912 = .ok (.iconst 0, 1) := by decide +kernel
theorem dL_refuses_913 : decode cL_refuses 913 = .ok (.iconst 0, 1) := by decide +kernel
theorem dL_refuses_914 : decode cL_refuses 914 = .ok (.bipush 9, 2) := by decide +kernel
theorem dL_refuses_916 : decode cL_refuses 916 = .ok (.iload 18, 2) := by decide +kernel
theorem dL_refuses_918 : decode cL_refuses 918 = .ok (.iconst 0, 1) := by decide +kernel
theorem dL_refuses_919 : decode cL_refuses 919 = .ok (.invokestatic 108, 3) := by decide +kernel
theorem dL_refuses_922 : decode cL_refuses 922 = .ok (.bipush (-71), 2) := by decide +kernel
theorem dL_refuses_924 : decode cL_refuses 924 = .ok (.if_icmp .ne 178, 3) := by decide +kernel
theorem dL_refuses_927 : decode cL_refuses 927 = .ok (.iload_n 1, 1) := by decide +kernel
theorem dL_refuses_928 : decode cL_refuses 928 = .ok (.ifCond .eq 170, 3) := by decide +kernel
theorem dL_refuses_931 : decode cL_refuses 931 = .ok (.aload_n 0, 1) := by decide +kernel
theorem dL_refuses_932 : decode cL_refuses 932 = .ok (.bipush 14, 2) := by decide +kernel
theorem dL_refuses_934 : decode cL_refuses 934 = .ok (.iload 13, 2) := by decide +kernel
theorem dL_refuses_936 : decode cL_refuses 936 = .ok (.iconst 0, 1) := by decide +kernel
theorem dL_refuses_937 : decode cL_refuses 937 = .ok (.iconst 0, 1) := by decide +kernel
theorem dL_refuses_938 : decode cL_refuses 938 = .ok (.iconst 0, 1) := by decide +kernel
theorem dL_refuses_939 : decode cL_refuses 939 = .ok (.invokestatic 98, 3) := by decide +kernel
theorem dL_refuses_942 : decode cL_refuses 942 = .ok (.bipush (-72), 2) := by decide +kernel
theorem dL_refuses_944 : decode cL_refuses 944 = .ok (.if_icmp .ne 158, 3) := by decide +kernel
theorem dL_refuses_947 : decode cL_refuses 947 = .ok (.aload_n 0, 1) := by decide +kernel
theorem dL_refuses_948 : decode cL_refuses 948 = .ok (.bipush 15, 2) := by decide +kernel
theorem dL_refuses_950 : decode cL_refuses 950 = .ok (.iload 11, 2) := by decide +kernel
theorem dL_refuses_952 : decode cL_refuses 952 = .ok (.iconst 0, 1) := by decide +kernel
theorem dL_refuses_953 : decode cL_refuses 953 = .ok (.iconst 0, 1) := by decide +kernel
theorem dL_refuses_954 : decode cL_refuses 954 = .ok (.iconst 0, 1) := by decide +kernel
theorem dL_refuses_955 : decode cL_refuses 955 = .ok (.invokestatic 98, 3) := by decide +kernel
theorem dL_refuses_958 : decode cL_refuses 958 = .ok (.bipush (-71), 2) := by decide +kernel
theorem dL_refuses_960 : decode cL_refuses 960 = .ok (.if_icmp .ne 142, 3) := by decide +kernel
theorem dL_refuses_963 : decode cL_refuses 963 = .ok (.aload_n 0, 1) := by decide +kernel
theorem dL_refuses_964 : decode cL_refuses 964 = .ok (.bipush 15, 2) := by decide +kernel
theorem dL_refuses_966 : decode cL_refuses 966 = .ok (.iconst 0, 1) := by decide +kernel
theorem dL_refuses_967 : decode cL_refuses 967 = .ok (.iconst 0, 1) := by decide +kernel
theorem dL_refuses_968 : decode cL_refuses 968 = .ok (.iload 12, 2) := by decide +kernel
theorem dL_refuses_970 : decode cL_refuses 970 = .ok (.iconst 0, 1) := by decide +kernel
theorem dL_refuses_971 : decode cL_refuses 971 = .ok (.invokestatic 98, 3) := by decide +kernel
theorem dL_refuses_974 : decode cL_refuses 974 = .ok (.bipush (-71), 2) := by decide +kernel
theorem dL_refuses_976 : decode cL_refuses 976 = .ok (.if_icmp .ne 126, 3) := by decide +kernel
theorem dL_refuses_979 : decode cL_refuses 979 = .ok (.aload_n 0, 1) := by decide +kernel
theorem dL_refuses_980 : decode cL_refuses 980 = .ok (.iload 11, 2) := by decide +kernel
theorem dL_refuses_982 : decode cL_refuses 982 = .ok (.iconst 0, 1) := by decide +kernel
theorem dL_refuses_983 : decode cL_refuses 983 = .ok (.iconst 0, 1) := by decide +kernel
