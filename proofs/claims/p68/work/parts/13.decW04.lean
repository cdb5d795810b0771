theorem dL_hangs_606 : decode cL_hangs 606 = .ok (.iload 15, 2) := by decide +kernel
theorem dL_hangs_608 : decode cL_hangs 608 = .ok (.iload 14, 2) := by decide +kernel
theorem dL_hangs_610 : decode cL_hangs 610 = .ok (.iadd, 1) := by decide +kernel
theorem dL_hangs_611 : decode cL_hangs 611 = .ok (.goto 4, 3) := by decide +kernel
theorem dL_hangs_614 : decode cL_hangs 614 = .ok (.iconst 0, 1) := by decide +kernel
theorem dL_hangs_615 : decode cL_hangs 615 = .ok (.iadd, 1) := by decide +kernel
theorem dL_hangs_616 : decode cL_hangs 616 = .ok (.istore 11, 2) := by decide +kernel
theorem dL_hangs_618 : decode cL_hangs 618 = .ok (.aload 4, 2) := by decide +kernel
theorem dL_hangs_620 : decode cL_hangs 620 = .ok (.aload_n 0, 1) := by decide +kernel
theorem dL_hangs_621 : decode cL_hangs 621 = .ok (.iload 12, 2) := by decide +kernel
theorem dL_hangs_623 : decode cL_hangs 623 = .ok (.invokestatic 255, 3) := by decide +kernel
theorem dL_hangs_626 : decode cL_hangs 626 = .ok (.iconst 4, 1) := by decide +kernel
theorem dL_hangs_627 : decode cL_hangs 627 = .ok (.irem, 1) := by decide +kernel
theorem dL_hangs_628 : decode cL_hangs 628 = .ok (.dup2, 1) := by decide +kernel
theorem dL_hangs_629 : decode cL_hangs 629 = .ok (.iaload, 1) := by decide +kernel
theorem dL_hangs_630 : decode cL_hangs 630 = .ok (.iload 5, 2) := by decide +kernel
theorem dL_hangs_632 : decode cL_hangs 632 = .ok (.ifCond .ne 7, 3) := by decide +kernel
theorem dL_hangs_635 : decode cL_hangs 635 = .ok (.iconst 1, 1) := by decide +kernel
theorem dL_hangs_636 : decode cL_hangs 636 = .ok (.goto 4, 3) := by decide +kernel
theorem dL_hangs_639 : decode cL_hangs 639 = .ok (.iconst 0, 1) := by decide +kernel
theorem dL_hangs_640 : decode cL_hangs 640 = .ok (.iadd, 1) := by decide +kernel
theorem dL_hangs_641 : decode cL_hangs 641 = .ok (.iastore, 1) := by decide +kernel
theorem dL_hangs_642 : decode cL_hangs 642 = .ok (.iinc 12 1, 3) := by decide +kernel
theorem dL_hangs_645 : decode cL_hangs 645 = .ok (.goto (-530), 3) := by decide +kernel
theorem dL_hangs_648 : decode cL_hangs 648 = .ok (.iconst 0, 1) := by decide +kernel
theorem dL_hangs_649 : decode cL_hangs 649 = .ok (.istore 12, 2) := by decide +kernel
theorem dL_hangs_651 : decode cL_hangs 651 = .ok (.iload 12, 2) := by decide +kernel
theorem dL_hangs_653 : decode cL_hangs 653 = .ok (.iconst 5, 1) := by decide +kernel
theorem dL_hangs_654 : decode cL_hangs 654 = .ok (.if_icmp .ge 130, 3) := by decide +kernel
theorem dL_hangs_657 : decode cL_hangs 657 = .ok (.iload_n 3, 1) := by decide +kernel
theorem dL_hangs_658 : decode cL_hangs 658 = .ok (.ifCond .eq 126, 3) := by decide +kernel
theorem dL_hangs_661 : decode cL_hangs 661 = .ok (.aload_n 0, 1) := by decide +kernel
theorem dL_hangs_662 : decode cL_hangs 662 = .ok (.iload 12, 2) := by decide +kernel
theorem dL_hangs_664 : decode cL_hangs 664 = .ok (.iload 5, 2) := by decide +kernel
theorem dL_hangs_666 : decode cL_hangs 666 = .ok (.invokestatic 278, 3) := by decide +kernel
theorem dL_hangs_669 : decode cL_hangs 669 = .ok (.istore 13, 2) := by decide +kernel
theorem dL_hangs_671 : decode cL_hangs 671 = .ok (.aload_n 0, 1) := by decide +kernel
theorem dL_hangs_672 : decode cL_hangs 672 = .ok (.iload 12, 2) := by decide +kernel
theorem dL_hangs_674 : decode cL_hangs 674 = .ok (.iload 5, 2) := by decide +kernel
theorem dL_hangs_676 : decode cL_hangs 676 = .ok (.invokestatic 280, 3) := by decide +kernel
theorem dL_hangs_679 : decode cL_hangs 679 = .ok (.bipush 19, 2) := by decide +kernel
theorem dL_hangs_681 : decode cL_hangs 681 = .ok (.if_icmp .le 82, 3) := by decide +kernel
theorem dL_hangs_684 : decode cL_hangs 684 = .ok (.aload_n 0, 1) := by decide +kernel
theorem dL_hangs_685 : decode cL_hangs 685 = .ok (.iload 12, 2) := by decide +kernel
theorem dL_hangs_687 : decode cL_hangs 687 = .ok (.iload 5, 2) := by decide +kernel
theorem dL_hangs_689 : decode cL_hangs 689 = .ok (.invokestatic 280, 3) := by decide +kernel
theorem dL_hangs_692 : decode cL_hangs 692 = .ok (.bipush 121, 2) := by decide +kernel
theorem dL_hangs_694 : decode cL_hangs 694 = .ok (.if_icmp .ge 69, 3) := by decide +kernel
theorem dL_hangs_697 : decode cL_hangs 697 = .ok (.aload_n 0, 1) := by decide +kernel
theorem dL_hangs_698 : decode cL_hangs 698 = .ok (.iload 12, 2) := by decide +kernel
theorem dL_hangs_700 : decode cL_hangs 700 = .ok (.iload 5, 2) := by decide +kernel
theorem dL_hangs_702 : decode cL_hangs 702 = .ok (.invokestatic 282, 3) := by decide +kernel
theorem dL_hangs_705 : decode cL_hangs 705 = .ok (.ifCond .lt 58, 3) := by decide +kernel
theorem dL_hangs_708 : decode cL_hangs 708 = .ok (.aload_n 0, 1) := by decide +kernel
theorem dL_hangs_709 : decode cL_hangs 709 = .ok (.iload 12, 2) := by decide +kernel
theorem dL_hangs_711 : decode cL_hangs 711 = .ok (.iload 5, 2) := by decide +kernel
theorem dL_hangs_713 : decode cL_hangs 713 = .ok (.invokestatic 282, 3) := by decide +kernel
theorem dL_hangs_716 : decode cL_hangs 716 = .ok (.aload_n 0, 1) := by decide +kernel
theorem dL_hangs_717 : decode cL_hangs 717 = .ok (.iload 12, 2) := by decide +kernel
theorem dL_hangs_719 : decode cL_hangs 719 = .ok (.iload 5, 2) := by decide +kernel
theorem dL_hangs_721 : decode cL_hangs 721 = .ok (.invokestatic 280, 3) := by decide +kernel
theorem dL_hangs_724 : decode cL_hangs 724 = .ok (.if_icmp .gt 39, 3) := by decide +kernel
theorem dL_hangs_727 : decode cL_hangs 727 = .ok (.iload 13, 2) := by decide +kernel
theorem dL_hangs_729 : decode cL_hangs 729 = .ok (.aload_n 0, 1) := by decide +kernel
theorem dL_hangs_730 : decode cL_hangs 730 = .ok (.iload 12, 2) := by decide +kernel
theorem dL_hangs_732 : decode cL_hangs 732 = .ok (.iload 5, 2) := by decide +kernel
theorem dL_hangs_734 : decode cL_hangs 734 = .ok (.invokestatic 284, 3) := by decide +kernel
theorem dL_hangs_737 : decode cL_hangs 737 = .ok (.if_icmp .ne 26, 3) := by decide +kernel
theorem dL_hangs_740 : decode cL_hangs 740 = .ok (.iload 13, 2) := by decide +kernel
theorem dL_hangs_742 : decode cL_hangs 742 = .ok (.ifCond .ge 10, 3) := by decide +kernel
theorem dL_hangs_745 : decode cL_hangs 745 = .ok (.iload 13, 2) := by decide +kernel
theorem dL_hangs_747 : decode cL_hangs 747 = .ok (.bipush (-4), 2) := by decide +kernel
theorem dL_hangs_749 : decode cL_hangs 749 = .ok (.if_icmp .ne 14, 3) := by decide +kernel
theorem dL_hangs_752 : decode cL_hangs 752 = .ok (.iload 13, 2) := by decide +kernel
theorem dL_hangs_754 : decode cL_hangs 754 = .ok (.bipush 26, 2) := by decide +kernel
theorem dL_hangs_756 : decode cL_hangs 756 = .ok (.if_icmp .ge 7, 3) := by decide +kernel
theorem dL_hangs_759 : decode cL_hangs 759 = .ok (.iconst 1, 1) := by decide +kernel
theorem dL_hangs_760 : decode cL_hangs 760 = .ok (.goto 4, 3) := by decide +kernel
theorem dL_hangs_763 : decode cL_hangs 763 = .ok (.iconst 0, 1) := by decide +kernel
theorem dL_hangs_764 : decode cL_hangs 764 = .ok (.istore_n 3, 1) := by decide +kernel
theorem dL_hangs_765 : decode cL_hangs 765 = .ok (.iload 10, 2) := by decide +kernel
theorem dL_hangs_767 : decode cL_hangs 767 = .ok (.aload_n 0, 1) := by decide +kernel
theorem dL_hangs_768 : decode cL_hangs 768 = .ok (.iload 12, 2) := by decide +kernel
theorem dL_hangs_770 : decode cL_hangs 770 = .ok (.iload 5, 2) := by decide +kernel
theorem dL_hangs_772 : decode cL_hangs 772 = .ok (.invokestatic 286, 3) := by decide +kernel
theorem dL_hangs_775 : decode cL_hangs 775 = .ok (.iadd, 1) := by decide +kernel
theorem dL_hangs_776 : decode cL_hangs 776 = .ok (.istore 10, 2) := by decide +kernel
theorem dL_hangs_778 : decode cL_hangs 778 = .ok (.iinc 12 1, 3) := by decide +kernel
theorem dL_hangs_781 : decode cL_hangs 781 = .ok (.goto (-130), 3) := by decide +kernel
theorem dL_hangs_784 : decode cL_hangs 784 = .ok (.iload_n 1, 1) := by decide +kernel
theorem dL_hangs_785 : decode cL_hangs 785 = .ok (.ifCond .le 7, 3) := by decide +kernel
theorem dL_hangs_788 : decode cL_hangs 788 = .ok (.iconst 1, 1) := by decide +kernel
theorem dL_hangs_789 : decode cL_hangs 789 = .ok (.goto 4, 3) := by decide +kernel
theorem dL_hangs_792 : decode cL_hangs 792 = .ok (.iconst 0, 1) := by decide +kernel
theorem dL_hangs_793 : decode cL_hangs 793 = .ok (.istore 12, 2) := by decide +kernel
theorem dL_hangs_795 : decode cL_hangs 795 = .ok (.iconst 0, 1) := by decide +kernel
theorem dL_hangs_796 : decode cL_hangs 796 = .ok (.istore 13, 2) := by decide +kernel
theorem dL_hangs_798 : decode cL_hangs 798 = .ok (.iload 13, 2) := by decide +kernel
theorem dL_hangs_800 : decode cL_hangs 800 = .ok (.iconst 4, 1) := by decide +kernel
theorem dL_hangs_801 : decode cL_hangs 801 = .ok (.if_icmp .ge 191, 3) := by decide +kernel
theorem dL_hangs_804 : decode cL_hangs 804 = .ok (.iload_n 3, 1) := by decide +kernel
theorem dL_hangs_805 : decode cL_hangs 805 = .ok (.ifCond .eq 187, 3) := by decide +kernel
theorem dL_hangs_808 : decode cL_hangs 808 = .ok (.aload_n 0, 1) := by decide +kernel
theorem dL_hangs_809 : decode cL_hangs 809 = .ok (.iload 13, 2) := by decide +kernel
theorem dL_hangs_811 : decode cL_hangs 811 = .ok (.iload 5, 2) := by decide +kernel
theorem dL_hangs_813 : decode cL_hangs 813 = .ok (.invokestatic 288, 3) := by decide +kernel
theorem dL_hangs_816 : decode cL_hangs 816 = .ok (.istore 14, 2) := by decide +kernel
theorem dL_hangs_818 : decode cL_hangs 818 = .ok (.iconst 0, 1) := by decide +kernel
theorem dL_hangs_819 : decode cL_hangs 819 = .ok (.istore 15, 2) := by decide +kernel
theorem dL_hangs_821 : decode cL_hangs 821 = .ok (.iconst 0, 1) := by decide +kernel
theorem dL_hangs_822 : decode cL_hangs 822 = .ok (.istore 16, 2) := by decide +kernel
theorem dL_hangs_824 : decode cL_hangs 824 = .ok (.iload 16, 2) := by decide +kernel
theorem dL_hangs_826 : decode cL_hangs 826 = .ok (.iconst 5, 1) := by decide +kernel
theorem dL_hangs_827 : decode cL_hangs 827 = .ok (.if_icmp .ge 59, 3) := by decide +kernel
theorem dL_hangs_830 : decode cL_hangs 830 = .ok (.iload 15, 2) := by decide +kernel
theorem dL_hangs_832 : decode cL_hangs 832 = .ok (.aload_n 0, 1) := by decide +kernel
theorem dL_hangs_833 : decode cL_hangs 833 = .ok (.iload 16, 2) := by decide +kernel
theorem dL_hangs_835 : decode cL_hangs 835 = .ok (.iload 13, 2) := by decide +kernel
theorem dL_hangs_837 : decode cL_hangs 837 = .ok (.iload 5, 2) := by decide +kernel
theorem dL_hangs_839 : decode cL_hangs 839 = .ok (.invokestatic 291, 3) := by decide +kernel
theorem dL_hangs_842 : decode cL_hangs 842 = .ok (.iadd, 1) := by decide +kernel
theorem dL_hangs_843 : decode cL_hangs 843 = .ok (.istore 15, 2) := by decide +kernel
theorem dL_hangs_845 : decode cL_hangs 845 = .ok (.iload_n 3, 1) := by decide +kernel
theorem dL_hangs_846 : decode cL_hangs 846 = .ok (.ifCond .eq 32, 3) := by decide +kernel
theorem dL_hangs_849 : decode cL_hangs 849 = .ok (.aload_n 0, 1) := by decide +kernel
theorem dL_hangs_850 : decode cL_hangs 850 = .ok (.iload 16, 2) := by decide +kernel
theorem dL_hangs_852 : decode cL_hangs 852 = .ok (.iload 13, 2) := by decide +kernel
theorem dL_hangs_854 : decode cL_hangs 854 = .ok (.iload 5, 2) := by decide +kernel
theorem dL_hangs_856 : decode cL_hangs 856 = .ok (.invokestatic 291, 3) := by decide +kernel
theorem dL_hangs_859 : decode cL_hangs 859 = .ok (.ifCond .eq 15, 3) := by decide +kernel
theorem dL_hangs_862 : decode cL_hangs 862 = .ok (.aload_n 0, 1) := by decide +kernel
theorem dL_hangs_863 : decode cL_hangs 863 = .ok (.iload 16, 2) := by decide +kernel
theorem dL_hangs_865 : decode cL_hangs 865 = .ok (.iload 13, 2) := by decide +kernel
theorem dL_hangs_867 : decode cL_hangs 867 = .ok (.invokestatic 293, 3) := by decide +kernel
theorem dL_hangs_870 : decode cL_hangs 870 = .ok (.iconst 1, 1) := by decide +kernel
theorem dL_hangs_871 : decode cL_hangs 871 = .ok (.if_icmp .ne 7, 3) := by decide +kernel
theorem dL_hangs_874 : decode cL_hangs 874 = .ok (.iconst 1, 1) := by decide +kernel
theorem dL_hangs_875 : decode cL_hangs 875 = .ok (.goto 4, 3) := by decide +kernel
theorem dL_hangs_878 : decode cL_hangs 878 = .ok (.iconst 0, 1) := by decide +kernel
theorem dL_hangs_879 : decode cL_hangs 879 = .ok (.istore_n 3, 1) := by decide +kernel
theorem dL_hangs_880 : decode cL_hangs 880 = .ok (.iinc 16 1, 3) := by decide +kernel
theorem dL_hangs_883 : decode cL_hangs 883 = .ok (.goto (-59), 3) := by decide +kernel
theorem dL_hangs_886 : decode cL_hangs 886 = .ok (.iload_n 3, 1) := by decide +kernel
theorem dL_hangs_887 : decode cL_hangs 887 = .ok (.ifCond .eq 60, 3) := by decide +kernel
theorem dL_hangs_890 : decode cL_hangs 890 = .ok (.iload 14, 2) := by decide +kernel
theorem dL_hangs_892 : decode cL_hangs 892 = .ok (.bipush 10, 2) := by decide +kernel
theorem dL_hangs_894 : decode cL_hangs 894 = .ok (.idiv, 1) := by decide +kernel
theorem dL_hangs_895 : decode cL_hangs 895 = .ok (.bipush 10, 2) := by decide +kernel
theorem dL_hangs_897 : decode cL_hangs 897 = .ok (.irem, 1) := by decide +kernel
theorem dL_hangs_898 : decode cL_hangs 898 = .ok (.iload 15, 2) := by decide +kernel
