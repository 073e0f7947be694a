theorem dL_searches_558 : decode cL_searches 558 = .ok (.iconst (-1), 1) := by decide +kernel
theorem dL_searches_559 : decode cL_searches 559 = .ok (.iconst (-1), 1) := by decide +kernel
theorem dL_searches_560 : decode cL_searches 560 = .ok (.iconst (-1), 1) := by decide +kernel
theorem dL_searches_561 : decode cL_searches 561 = .ok (.invokestatic 120, 3) := by decide +kernel
theorem dL_searches_564 : decode cL_searches 564 = .ok (.ifCond .eq 175, 3) := by decide +kernel
theorem dL_searches_567 : decode cL_searches 567 = .ok (.aload_n 0, 1) := by decide +kernel
theorem dL_searches_568 : decode cL_searches 568 = .ok (.iconst 1, 1) := by decide +kernel
theorem dL_searches_569 : decode cL_searches 569 = .ok (.iconst 2, 1) := by decide +kernel
theorem dL_searches_570 : decode cL_searches 570 = .ok (.iconst 2, 1) := by decide +kernel
theorem dL_searches_571 : decode cL_searches 571 = .ok (.iconst 3, 1) := by decide +kernel
theorem dL_searches_572 : decode cL_searches 572 = .ok (.iconst 2, 1) := by decide +kernel
theorem dL_searches_573 : decode cL_searches 573 = .ok (.iconst 4, 1) := by decide +kernel
theorem dL_searches_574 : decode cL_searches 574 = .ok (.iconst (-1), 1) := by decide +kernel
theorem dL_searches_575 : decode cL_searches 575 = .ok (.iconst (-1), 1) := by decide +kernel
theorem dL_searches_576 : decode cL_searches 576 = .ok (.invokestatic 120, 3) := by decide +kernel
theorem dL_searches_579 : decode cL_searches 579 = .ok (.ifCond .eq 160, 3) := by decide +kernel
theorem dL_searches_582 : decode cL_searches 582 = .ok (.aload_n 0, 1) := by decide +kernel
theorem dL_searches_583 : decode cL_searches 583 = .ok (.iconst 0, 1) := by decide +kernel
theorem dL_searches_584 : decode cL_searches 584 = .ok (.iconst 4, 1) := by decide +kernel
theorem dL_searches_585 : decode cL_searches 585 = .ok (.iconst 0, 1) := by decide +kernel
theorem dL_searches_586 : decode cL_searches 586 = .ok (.invokestatic 102, 3) := by decide +kernel
theorem dL_searches_589 : decode cL_searches 589 = .ok (.ifCond .ne 150, 3) := by decide +kernel
theorem dL_searches_592 : decode cL_searches 592 = .ok (.aload_n 0, 1) := by decide +kernel
theorem dL_searches_593 : decode cL_searches 593 = .ok (.iconst 0, 1) := by decide +kernel
theorem dL_searches_594 : decode cL_searches 594 = .ok (.iconst 2, 1) := by decide +kernel
theorem dL_searches_595 : decode cL_searches 595 = .ok (.iconst 2, 1) := by decide +kernel
theorem dL_searches_596 : decode cL_searches 596 = .ok (.iconst 3, 1) := by decide +kernel
theorem dL_searches_597 : decode cL_searches 597 = .ok (.iconst 4, 1) := by decide +kernel
theorem dL_searches_598 : decode cL_searches 598 = .ok (.iconst (-1), 1) := by decide +kernel
theorem dL_searches_599 : decode cL_searches 599 = .ok (.iconst (-1), 1) := by decide +kernel
theorem dL_searches_600 : decode cL_searches 600 = .ok (.iconst (-1), 1) := by decide +kernel
theorem dL_searches_601 : decode cL_searches 601 = .ok (.invokestatic 120, 3) := by decide +kernel
theorem dL_searches_604 : decode cL_searches 604 = .ok (.ifCond .eq 135, 3) := by decide +kernel
theorem dL_searches_607 : decode cL_searches 607 = .ok (.aload_n 0, 1) := by decide +kernel
theorem dL_searches_608 : decode cL_searches 608 = .ok (.iconst 0, 1) := by decide +kernel
theorem dL_searches_609 : decode cL_searches 609 = .ok (.iconst 2, 1) := by decide +kernel
theorem dL_searches_610 : decode cL_searches 610 = .ok (.iconst (-1), 1) := by decide +kernel
theorem dL_searches_611 : decode cL_searches 611 = .ok (.invokestatic 102, 3) := by decide +kernel
theorem dL_searches_614 : decode cL_searches 614 = .ok (.ifCond .ne 125, 3) := by decide +kernel
theorem dL_searches_617 : decode cL_searches 617 = .ok (.aload_n 0, 1) := by decide +kernel
theorem dL_searches_618 : decode cL_searches 618 = .ok (.iconst 0, 1) := by decide +kernel
theorem dL_searches_619 : decode cL_searches 619 = .ok (.iconst 0, 1) := by decide +kernel
theorem dL_searches_620 : decode cL_searches 620 = .ok (.iconst 1, 1) := by decide +kernel
theorem dL_searches_621 : decode cL_searches 621 = .ok (.invokestatic 102, 3) := by decide +kernel
theorem dL_searches_624 : decode cL_searches 624 = .ok (.ifCond .ne 115, 3) := by decide +kernel
theorem dL_searches_627 : decode cL_searches 627 = .ok (.aload_n 0, 1) := by decide +kernel
theorem dL_searches_628 : decode cL_searches 628 = .ok (.iconst 0, 1) := by decide +kernel
theorem dL_searches_629 : decode cL_searches 629 = .ok (.iconst 0, 1) := by decide +kernel
theorem dL_searches_630 : decode cL_searches 630 = .ok (.iconst 2, 1) := by decide +kernel
theorem dL_searches_631 : decode cL_searches 631 = .ok (.iconst 5, 1) := by decide +kernel
theorem dL_searches_632 : decode cL_searches 632 = .ok (.iconst 4, 1) := by decide +kernel
theorem dL_searches_633 : decode cL_searches 633 = .ok (.iconst (-1), 1) := by decide +kernel
theorem dL_searches_634 : decode cL_searches 634 = .ok (.iconst (-1), 1) := by decide +kernel
theorem dL_searches_635 : decode cL_searches 635 = .ok (.iconst (-1), 1) := by decide +kernel
theorem dL_searches_636 : decode cL_searches 636 = .ok (.invokestatic 120, 3) := by decide +kernel
theorem dL_searches_639 : decode cL_searches 639 = .ok (.ifCond .eq 100, 3) := by decide +kernel
theorem dL_searches_642 : decode cL_searches 642 = .ok (.aload_n 0, 1) := by decide +kernel
theorem dL_searches_643 : decode cL_searches 643 = .ok (.iconst 0, 1) := by decide +kernel
theorem dL_searches_644 : decode cL_searches 644 = .ok (.iconst 0, 1) := by decide +kernel
theorem dL_searches_645 : decode cL_searches 645 = .ok (.iconst (-1), 1) := by decide +kernel
theorem dL_searches_646 : decode cL_searches 646 = .ok (.invokestatic 102, 3) := by decide +kernel
theorem dL_searches_649 : decode cL_searches 649 = .ok (.ifCond .ne 90, 3) := by decide +kernel
theorem dL_searches_652 : decode cL_searches 652 = .ok (.aload_n 0, 1) := by decide +kernel
theorem dL_searches_653 : decode cL_searches 653 = .ok (.iconst 2, 1) := by decide +kernel
theorem dL_searches_654 : decode cL_searches 654 = .ok (.iconst 1, 1) := by decide +kernel
theorem dL_searches_655 : decode cL_searches 655 = .ok (.invokestatic 105, 3) := by decide +kernel
theorem dL_searches_658 : decode cL_searches 658 = .ok (.ifCond .ne 81, 3) := by decide +kernel
theorem dL_searches_661 : decode cL_searches 661 = .ok (.aload_n 0, 1) := by decide +kernel
theorem dL_searches_662 : decode cL_searches 662 = .ok (.iconst 0, 1) := by decide +kernel
theorem dL_searches_663 : decode cL_searches 663 = .ok (.iconst 0, 1) := by decide +kernel
theorem dL_searches_664 : decode cL_searches 664 = .ok (.iconst 2, 1) := by decide +kernel
theorem dL_searches_665 : decode cL_searches 665 = .ok (.iconst 5, 1) := by decide +kernel
theorem dL_searches_666 : decode cL_searches 666 = .ok (.iconst 0, 1) := by decide +kernel
theorem dL_searches_667 : decode cL_searches 667 = .ok (.iconst 5, 1) := by decide +kernel
theorem dL_searches_668 : decode cL_searches 668 = .ok (.iconst 1, 1) := by decide +kernel
theorem dL_searches_669 : decode cL_searches 669 = .ok (.iconst (-1), 1) := by decide +kernel
theorem dL_searches_670 : decode cL_searches 670 = .ok (.invokestatic 120, 3) := by decide +kernel
theorem dL_searches_673 : decode cL_searches 673 = .ok (.ifCond .eq 66, 3) := by decide +kernel
theorem dL_searches_676 : decode cL_searches 676 = .ok (.aload_n 0, 1) := by decide +kernel
theorem dL_searches_677 : decode cL_searches 677 = .ok (.iconst 0, 1) := by decide +kernel
theorem dL_searches_678 : decode cL_searches 678 = .ok (.iconst 2, 1) := by decide +kernel
theorem dL_searches_679 : decode cL_searches 679 = .ok (.iconst 2, 1) := by decide +kernel
theorem dL_searches_680 : decode cL_searches 680 = .ok (.iconst 3, 1) := by decide +kernel
theorem dL_searches_681 : decode cL_searches 681 = .ok (.iconst 2, 1) := by decide +kernel
theorem dL_searches_682 : decode cL_searches 682 = .ok (.iconst 4, 1) := by decide +kernel
theorem dL_searches_683 : decode cL_searches 683 = .ok (.iconst (-1), 1) := by decide +kernel
theorem dL_searches_684 : decode cL_searches 684 = .ok (.iconst (-1), 1) := by decide +kernel
theorem dL_searches_685 : decode cL_searches 685 = .ok (.invokestatic 120, 3) := by decide +kernel
theorem dL_searches_688 : decode cL_searches 688 = .ok (.ifCond .eq 51, 3) := by decide +kernel
theorem dL_searches_691 : decode cL_searches 691 = .ok (.aload_n 0, 1) := by decide +kernel
theorem dL_searches_692 : decode cL_searches 692 = .ok (.iconst 4, 1) := by decide +kernel
theorem dL_searches_693 : decode cL_searches 693 = .ok (.iconst 1, 1) := by decide +kernel
theorem dL_searches_694 : decode cL_searches 694 = .ok (.invokestatic 105, 3) := by decide +kernel
theorem dL_searches_697 : decode cL_searches 697 = .ok (.ifCond .ne 42, 3) := by decide +kernel
theorem dL_searches_700 : decode cL_searches 700 = .ok (.aload_n 0, 1) := by decide +kernel
theorem dL_searches_701 : decode cL_searches 701 = .ok (.iconst 0, 1) := by decide +kernel
theorem dL_searches_702 : decode cL_searches 702 = .ok (.iconst 2, 1) := by decide +kernel
theorem dL_searches_703 : decode cL_searches 703 = .ok (.iconst 2, 1) := by decide +kernel
theorem dL_searches_704 : decode cL_searches 704 = .ok (.iconst 3, 1) := by decide +kernel
theorem dL_searches_705 : decode cL_searches 705 = .ok (.iconst 2, 1) := by decide +kernel
theorem dL_searches_706 : decode cL_searches 706 = .ok (.iconst (-1), 1) := by decide +kernel
theorem dL_searches_707 : decode cL_searches 707 = .ok (.iconst (-1), 1) := by decide +kernel
theorem dL_searches_708 : decode cL_searches 708 = .ok (.iconst (-1), 1) := by decide +kernel
theorem dL_searches_709 : decode cL_searches 709 = .ok (.invokestatic 120, 3) := by decide +kernel
theorem dL_searches_712 : decode cL_searches 712 = .ok (.ifCond .eq 27, 3) := by decide +kernel
theorem dL_searches_715 : decode cL_searches 715 = .ok (.aload_n 0, 1) := by decide +kernel
theorem dL_searches_716 : decode cL_searches 716 = .ok (.iconst 0, 1) := by decide +kernel
theorem dL_searches_717 : decode cL_searches 717 = .ok (.iconst 4, 1) := by decide +kernel
theorem dL_searches_718 : decode cL_searches 718 = .ok (.iconst 0, 1) := by decide +kernel
theorem dL_searches_719 : decode cL_searches 719 = .ok (.iconst 5, 1) := by decide +kernel
theorem dL_searches_720 : decode cL_searches 720 = .ok (.iconst 4, 1) := by decide +kernel
theorem dL_searches_721 : decode cL_searches 721 = .ok (.iconst (-1), 1) := by decide +kernel
theorem dL_searches_722 : decode cL_searches 722 = .ok (.iconst (-1), 1) := by decide +kernel
theorem dL_searches_723 : decode cL_searches 723 = .ok (.iconst (-1), 1) := by decide +kernel
theorem dL_searches_724 : decode cL_searches 724 = .ok (.invokestatic 120, 3) := by decide +kernel
theorem dL_searches_727 : decode cL_searches 727 = .ok (.ifCond .eq 12, 3) := by decide +kernel
theorem dL_searches_730 : decode cL_searches 730 = .ok (.aload_n 0, 1) := by decide +kernel
theorem dL_searches_731 : decode cL_searches 731 = .ok (.iconst 2, 1) := by decide +kernel
theorem dL_searches_732 : decode cL_searches 732 = .ok (.iconst 0, 1) := by decide +kernel
theorem dL_searches_733 : decode cL_searches 733 = .ok (.invokestatic 105, 3) := by decide +kernel
theorem dL_searches_736 : decode cL_searches 736 = .ok (.ifCond .eq 5, 3) := by decide +kernel
theorem dL_searches_739 : decode cL_searches 739 = .ok (.iconst 0, 1) := by decide +kernel
theorem dL_searches_740 : decode cL_searches 740 = .ok (.ireturn, 1) := by decide +kernel
theorem dL_searches_741 : decode cL_searches 741 = .ok (.bipush 7, 2) := by decide +kernel
theorem dL_searches_743 : decode cL_searches 743 = .ok (.istore_n 1, 1) := by decide +kernel
theorem dL_searches_744 : decode cL_searches 744 = .ok (.iload_n 1, 1) := by decide +kernel
theorem dL_searches_745 : decode cL_searches 745 = .ok (.bipush 21, 2) := by decide +kernel
theorem dL_searches_747 : decode cL_searches 747 = .ok (.if_icmp .ge 54, 3) := by decide +kernel
theorem dL_searches_750 : decode cL_searches 750 = .ok (.aload_n 0, 1) := by decide +kernel
theorem dL_searches_751 : decode cL_searches 751 = .ok (.bipush 13, 2) := by decide +kernel
theorem dL_searches_753 : decode cL_searches 753 = .ok (.iload_n 1, 1) := by decide +kernel
theorem dL_searches_754 : decode cL_searches 754 = .ok (.iconst 2, 1) := by decide +kernel
theorem dL_searches_755 : decode cL_searches 755 = .ok (.irem, 1) := by decide +kernel
theorem dL_searches_756 : decode cL_searches 756 = .ok (.iadd, 1) := by decide +kernel
theorem dL_searches_757 : decode cL_searches 757 = .ok (.iload_n 1, 1) := by decide +kernel
theorem dL_searches_758 : decode cL_searches 758 = .ok (.iconst 3, 1) := by decide +kernel
theorem dL_searches_759 : decode cL_searches 759 = .ok (.irem, 1) := by decide +kernel
theorem dL_searches_760 : decode cL_searches 760 = .ok (.iload_n 1, 1) := by decide +kernel
theorem dL_searches_761 : decode cL_searches 761 = .ok (.iconst 2, 1) := by decide +kernel
theorem dL_searches_762 : decode cL_searches 762 = .ok (.irem, 1) := by decide +kernel
theorem dL_searches_763 : decode cL_searches 763 = .ok (.ifCond .ne 7, 3) := by decide +kernel
theorem dL_searches_766 : decode cL_searches 766 = .ok (.iconst 0, 1) := by decide +kernel
theorem dL_searches_767 : decode cL_searches 767 = .ok (.goto 6, 3) := by decide +kernel
theorem dL_searches_770 : decode cL_searches 770 = .ok (.iload_n 1, 1) := by decide +kernel
theorem dL_searches_771 : decode cL_searches 771 = .ok (.iconst 1, 1) := by decide +kernel
theorem dL_searches_772 : decode cL_searches 772 = .ok (.isub, 1) := by decide +kernel
theorem dL_searches_773 : decode cL_searches 773 = .ok (.iconst 0, 1) := by decide +kernel
theorem dL_searches_774 : decode cL_searches 774 = .ok (.iconst 0, 1) := by decide +kernel
theorem dL_searches_775 : decode cL_searches 775 = .ok (.invokestatic 98, 3) := by decide +kernel
theorem dL_searches_778 : decode cL_searches 778 = .ok (.iload_n 1, 1) := by decide +kernel
theorem dL_searches_779 : decode cL_searches 779 = .ok (.bipush 20, 2) := by decide +kernel
theorem dL_searches_781 : decode cL_searches 781 = .ok (.if_icmp .ge 7, 3) := by decide +kernel
theorem dL_searches_784 : decode cL_searches 784 = .ok (.iload_n 1, 1) := by decide +kernel
theorem dL_searches_785 : decode cL_searches 785 = .ok (.goto 5, 3) := by decide +kernel
theorem dL_searches_788 : decode cL_searches 788 = .ok (.bipush (-73), 2) := by decide +kernel
theorem dL_searches_790 : decode cL_searches 790 = .ok (.if_icmp .eq 5, 3) := by decide +kernel
theorem dL_searches_793 : decode cL_searches 793 = .ok (.iconst 0, 1) := by decide +kernel
theorem dL_searches_794 : decode cL_searches 794 = .ok (.ireturn, 1) := by decide +kernel
theorem dL_searches_795 : decode cL_searches 795 = .ok (.iinc 1 1, 3) := by decide +kernel
theorem dL_searches_798 : decode cL_searches 798 = .ok (.goto (-54), 3) := by decide +kernel
theorem dL_searches_801 : decode cL_searches 801 = .ok (.aload_n 0, 1) := by decide +kernel
theorem dL_searches_802 : decode cL_searches 802 = .ok (.bipush 14, 2) := by decide +kernel
theorem dL_searches_804 : decode cL_searches 804 = .ok (.iconst 0, 1) := by decide +kernel
theorem dL_searches_805 : decode cL_searches 805 = .ok (.iconst 0, 1) := by decide +kernel
theorem dL_searches_806 : decode cL_searches 806 = .ok (.iconst 0, 1) := by decide +kernel
theorem dL_searches_807 : decode cL_searches 807 = .ok (.iconst 0, 1) := by decide +kernel
theorem dL_searches_808 : decode cL_searches 808 = .ok (.invokestatic 98, 3) := by decide +kernel
theorem dL_searches_811 : decode cL_searches 811 = .ok (.bipush (-73), 2) := by decide +kernel
theorem dL_searches_813 : decode cL_searches 813 = .ok (.if_icmp .ne 18, 3) := by decide +kernel
theorem dL_searches_816 : decode cL_searches 816 = .ok (.aload_n 0, 1) := by decide +kernel
theorem dL_searches_817 : decode cL_searches 817 = .ok (.bipush 20, 2) := by decide +kernel
theorem dL_searches_819 : decode cL_searches 819 = .ok (.bipush 6, 2) := by decide +kernel
theorem dL_searches_821 : decode cL_searches 821 = .ok (.invokestatic 116, 3) := by decide +kernel
theorem dL_searches_824 : decode cL_searches 824 = .ok (.ifCond .eq 7, 3) := by decide +kernel
theorem dL_searches_827 : decode cL_searches 827 = .ok (.iconst 1, 1) := by decide +kernel
theorem dL_searches_828 : decode cL_searches 828 = .ok (.goto 4, 3) := by decide +kernel
theorem dL_searches_831 : decode cL_searches 831 = .ok (.iconst 0, 1) := by decide +kernel
theorem dL_searches_832 : decode cL_searches 832 = .ok (.ireturn, 1) := by decide +kernel
