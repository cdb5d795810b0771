theorem dL_refuses_535 : decode cL_refuses 535 = .ok (.iconst 0, 1) := by decide +kernel
theorem dL_refuses_536 : decode cL_refuses 536 = .ok (.iload 4, 2) := by decide +kernel
theorem dL_refuses_538 : decode cL_refuses 538 = .ok (.invokestatic 293, 3) := by decide +kernel
theorem dL_refuses_541 : decode cL_refuses 541 = .ok (.bipush (-2), 2) := by decide +kernel
theorem dL_refuses_543 : decode cL_refuses 543 = .ok (.if_icmp .ne 99, 3) := by decide +kernel
theorem dL_refuses_546 : decode cL_refuses 546 = .ok (.aload_n 0, 1) := by decide +kernel
theorem dL_refuses_547 : decode cL_refuses 547 = .ok (.iload 4, 2) := by decide +kernel
theorem dL_refuses_549 : decode cL_refuses 549 = .ok (.iconst 0, 1) := by decide +kernel
theorem dL_refuses_550 : decode cL_refuses 550 = .ok (.invokestatic 288, 3) := by decide +kernel
theorem dL_refuses_553 : decode cL_refuses 553 = .ok (.bipush (-2), 2) := by decide +kernel
theorem dL_refuses_555 : decode cL_refuses 555 = .ok (.if_icmp .ne 87, 3) := by decide +kernel
theorem dL_refuses_558 : decode cL_refuses 558 = .ok (.aload_n 0, 1) := by decide +kernel
theorem dL_refuses_559 : decode cL_refuses 559 = .ok (.iconst 0, 1) := by decide +kernel
theorem dL_refuses_560 : decode cL_refuses 560 = .ok (.iconst 0, 1) := by decide +kernel
theorem dL_refuses_561 : decode cL_refuses 561 = .ok (.iload 6, 2) := by decide +kernel
theorem dL_refuses_563 : decode cL_refuses 563 = .ok (.invokestatic 291, 3) := by decide +kernel
theorem dL_refuses_566 : decode cL_refuses 566 = .ok (.bipush (-2), 2) := by decide +kernel
theorem dL_refuses_568 : decode cL_refuses 568 = .ok (.if_icmp .ne 74, 3) := by decide +kernel
theorem dL_refuses_571 : decode cL_refuses 571 = .ok (.aload_n 0, 1) := by decide +kernel
theorem dL_refuses_572 : decode cL_refuses 572 = .ok (.iload 6, 2) := by decide +kernel
theorem dL_refuses_574 : decode cL_refuses 574 = .ok (.invokestatic 303, 3) := by decide +kernel
theorem dL_refuses_577 : decode cL_refuses 577 = .ok (.bipush (-2), 2) := by decide +kernel
theorem dL_refuses_579 : decode cL_refuses 579 = .ok (.if_icmp .ne 63, 3) := by decide +kernel
theorem dL_refuses_582 : decode cL_refuses 582 = .ok (.aload_n 0, 1) := by decide +kernel
theorem dL_refuses_583 : decode cL_refuses 583 = .ok (.iload 6, 2) := by decide +kernel
theorem dL_refuses_585 : decode cL_refuses 585 = .ok (.invokestatic 300, 3) := by decide +kernel
theorem dL_refuses_588 : decode cL_refuses 588 = .ok (.bipush (-2), 2) := by decide +kernel
theorem dL_refuses_590 : decode cL_refuses 590 = .ok (.if_icmp .ne 52, 3) := by decide +kernel
theorem dL_refuses_593 : decode cL_refuses 593 = .ok (.aload_n 0, 1) := by decide +kernel
theorem dL_refuses_594 : decode cL_refuses 594 = .ok (.iload_n 3, 1) := by decide +kernel
theorem dL_refuses_595 : decode cL_refuses 595 = .ok (.iconst 0, 1) := by decide +kernel
theorem dL_refuses_596 : decode cL_refuses 596 = .ok (.invokestatic 266, 3) := by decide +kernel
theorem dL_refuses_599 : decode cL_refuses 599 = .ok (.bipush (-2), 2) := by decide +kernel
theorem dL_refuses_601 : decode cL_refuses 601 = .ok (.if_icmp .ne 41, 3) := by decide +kernel
theorem dL_refuses_604 : decode cL_refuses 604 = .ok (.aload_n 0, 1) := by decide +kernel
theorem dL_refuses_605 : decode cL_refuses 605 = .ok (.iload_n 3, 1) := by decide +kernel
theorem dL_refuses_606 : decode cL_refuses 606 = .ok (.invokestatic 318, 3) := by decide +kernel
theorem dL_refuses_609 : decode cL_refuses 609 = .ok (.bipush (-2), 2) := by decide +kernel
theorem dL_refuses_611 : decode cL_refuses 611 = .ok (.if_icmp .ne 31, 3) := by decide +kernel
theorem dL_refuses_614 : decode cL_refuses 614 = .ok (.aload_n 0, 1) := by decide +kernel
theorem dL_refuses_615 : decode cL_refuses 615 = .ok (.iload 6, 2) := by decide +kernel
theorem dL_refuses_617 : decode cL_refuses 617 = .ok (.invokestatic 298, 3) := by decide +kernel
theorem dL_refuses_620 : decode cL_refuses 620 = .ok (.bipush (-2), 2) := by decide +kernel
theorem dL_refuses_622 : decode cL_refuses 622 = .ok (.if_icmp .ne 20, 3) := by decide +kernel
theorem dL_refuses_625 : decode cL_refuses 625 = .ok (.aload_n 0, 1) := by decide +kernel
theorem dL_refuses_626 : decode cL_refuses 626 = .ok (.iload 6, 2) := by decide +kernel
theorem dL_refuses_628 : decode cL_refuses 628 = .ok (.invokestatic 306, 3) := by decide +kernel
theorem dL_refuses_631 : decode cL_refuses 631 = .ok (.ldc2_w 173, 3) := by decide +kernel
theorem dL_refuses_634 : decode cL_refuses 634 = .ok (.dcmp .l, 1) := by decide +kernel
theorem dL_refuses_635 : decode cL_refuses 635 = .ok (.ifCond .ne 7, 3) := by decide +kernel
theorem dL_refuses_638 : decode cL_refuses 638 = .ok (.iconst 1, 1) := by decide +kernel
theorem dL_refuses_639 : decode cL_refuses 639 = .ok (.goto 4, 3) := by decide +kernel
theorem dL_refuses_642 : decode cL_refuses 642 = .ok (.iconst 0, 1) := by decide +kernel
theorem dL_refuses_643 : decode cL_refuses 643 = .ok (.istore 7, 2) := by decide +kernel
theorem dL_refuses_645 : decode cL_refuses 645 = .ok (.iconst 0, 1) := by decide +kernel
theorem dL_refuses_646 : decode cL_refuses 646 = .ok (.istore 8, 2) := by decide +kernel
theorem dL_refuses_648 : decode cL_refuses 648 = .ok (.iload 8, 2) := by decide +kernel
theorem dL_refuses_650 : decode cL_refuses 650 = .ok (.iload_n 2, 1) := by decide +kernel
theorem dL_refuses_651 : decode cL_refuses 651 = .ok (.if_icmp .ge 308, 3) := by decide +kernel
theorem dL_refuses_654 : decode cL_refuses 654 = .ok (.iload 8, 2) := by decide +kernel
theorem dL_refuses_656 : decode cL_refuses 656 = .ok (.bipush 24, 2) := by decide +kernel
theorem dL_refuses_658 : decode cL_refuses 658 = .ok (.if_icmp .ge 301, 3) := by decide +kernel
theorem dL_refuses_661 : decode cL_refuses 661 = .ok (.iload 7, 2) := by decide +kernel
theorem dL_refuses_663 : decode cL_refuses 663 = .ok (.ifCond .eq 296, 3) := by decide +kernel
theorem dL_refuses_666 : decode cL_refuses 666 = .ok (.iload_n 1, 1) := by decide +kernel
theorem dL_refuses_667 : decode cL_refuses 667 = .ok (.iload 8, 2) := by decide +kernel
theorem dL_refuses_669 : decode cL_refuses 669 = .ok (.iadd, 1) := by decide +kernel
theorem dL_refuses_670 : decode cL_refuses 670 = .ok (.iconst 3, 1) := by decide +kernel
theorem dL_refuses_671 : decode cL_refuses 671 = .ok (.irem, 1) := by decide +kernel
theorem dL_refuses_672 : decode cL_refuses 672 = .ok (.istore 9, 2) := by decide +kernel
theorem dL_refuses_674 : decode cL_refuses 674 = .ok (.aload_n 0, 1) := by decide +kernel
theorem dL_refuses_675 : decode cL_refuses 675 = .ok (.iload 8, 2) := by decide +kernel
theorem dL_refuses_677 : decode cL_refuses 677 = .ok (.iconst 0, 1) := by decide +kernel
theorem dL_refuses_678 : decode cL_refuses 678 = .ok (.invokestatic 264, 3) := by decide +kernel
theorem dL_refuses_681 : decode cL_refuses 681 = .ok (.ifCond .ge 23, 3) := by decide +kernel
theorem dL_refuses_684 : decode cL_refuses 684 = .ok (.aload_n 0, 1) := by decide +kernel
theorem dL_refuses_685 : decode cL_refuses 685 = .ok (.iload 8, 2) := by decide +kernel
theorem dL_refuses_687 : decode cL_refuses 687 = .ok (.iconst 1, 1) := by decide +kernel
theorem dL_refuses_688 : decode cL_refuses 688 = .ok (.invokestatic 264, 3) := by decide +kernel
theorem dL_refuses_691 : decode cL_refuses 691 = .ok (.ifCond .ge 13, 3) := by decide +kernel
theorem dL_refuses_694 : decode cL_refuses 694 = .ok (.aload_n 0, 1) := by decide +kernel
theorem dL_refuses_695 : decode cL_refuses 695 = .ok (.iload 8, 2) := by decide +kernel
theorem dL_refuses_697 : decode cL_refuses 697 = .ok (.iconst 2, 1) := by decide +kernel
theorem dL_refuses_698 : decode cL_refuses 698 = .ok (.invokestatic 264, 3) := by decide +kernel
theorem dL_refuses_701 : decode cL_refuses 701 = .ok (.ifCond .lt 7, 3) := by decide +kernel
theorem dL_refuses_704 : decode cL_refuses 704 = .ok (.iconst 1, 1) := by decide +kernel
theorem dL_refuses_705 : decode cL_refuses 705 = .ok (.goto 4, 3) := by decide +kernel
theorem dL_refuses_708 : decode cL_refuses 708 = .ok (.iconst 0, 1) := by decide +kernel
theorem dL_refuses_709 : decode cL_refuses 709 = .ok (.istore 10, 2) := by decide +kernel
theorem dL_refuses_711 : decode cL_refuses 711 = .ok (.aload_n 0, 1) := by decide +kernel
theorem dL_refuses_712 : decode cL_refuses 712 = .ok (.iload 8, 2) := by decide +kernel
theorem dL_refuses_714 : decode cL_refuses 714 = .ok (.bipush 61, 2) := by decide +kernel
theorem dL_refuses_716 : decode cL_refuses 716 = .ok (.iload_n 1, 1) := by decide +kernel
theorem dL_refuses_717 : decode cL_refuses 717 = .ok (.iadd, 1) := by decide +kernel
theorem dL_refuses_718 : decode cL_refuses 718 = .ok (.invokestatic 199, 3) := by decide +kernel
theorem dL_refuses_721 : decode cL_refuses 721 = .ok (.bipush (-3), 2) := by decide +kernel
theorem dL_refuses_723 : decode cL_refuses 723 = .ok (.if_icmp .ne 227, 3) := by decide +kernel
theorem dL_refuses_726 : decode cL_refuses 726 = .ok (.aload_n 0, 1) := by decide +kernel
theorem dL_refuses_727 : decode cL_refuses 727 = .ok (.iload 8, 2) := by decide +kernel
theorem dL_refuses_729 : decode cL_refuses 729 = .ok (.bipush 21, 2) := by decide +kernel
theorem dL_refuses_731 : decode cL_refuses 731 = .ok (.iload_n 1, 1) := by decide +kernel
theorem dL_refuses_732 : decode cL_refuses 732 = .ok (.iadd, 1) := by decide +kernel
theorem dL_refuses_733 : decode cL_refuses 733 = .ok (.invokestatic 202, 3) := by decide +kernel
theorem dL_refuses_736 : decode cL_refuses 736 = .ok (.bipush (-3), 2) := by decide +kernel
theorem dL_refuses_738 : decode cL_refuses 738 = .ok (.if_icmp .ne 212, 3) := by decide +kernel
theorem dL_refuses_741 : decode cL_refuses 741 = .ok (.aload_n 0, 1) := by decide +kernel
theorem dL_refuses_742 : decode cL_refuses 742 = .ok (.iload 8, 2) := by decide +kernel
theorem dL_refuses_744 : decode cL_refuses 744 = .ok (.iload 4, 2) := by decide +kernel
theorem dL_refuses_746 : decode cL_refuses 746 = .ok (.invokestatic 204, 3) := by decide +kernel
theorem dL_refuses_749 : decode cL_refuses 749 = .ok (.bipush (-2), 2) := by decide +kernel
theorem dL_refuses_751 : decode cL_refuses 751 = .ok (.if_icmp .ne 199, 3) := by decide +kernel
theorem dL_refuses_754 : decode cL_refuses 754 = .ok (.aload_n 0, 1) := by decide +kernel
theorem dL_refuses_755 : decode cL_refuses 755 = .ok (.iload 8, 2) := by decide +kernel
theorem dL_refuses_757 : decode cL_refuses 757 = .ok (.aload_n 0, 1) := by decide +kernel
theorem dL_refuses_758 : decode cL_refuses 758 = .ok (.iload 8, 2) := by decide +kernel
theorem dL_refuses_760 : decode cL_refuses 760 = .ok (.invokestatic 255, 3) := by decide +kernel
theorem dL_refuses_763 : decode cL_refuses 763 = .ok (.iconst 4, 1) := by decide +kernel
theorem dL_refuses_764 : decode cL_refuses 764 = .ok (.irem, 1) := by decide +kernel
theorem dL_refuses_765 : decode cL_refuses 765 = .ok (.invokestatic 204, 3) := by decide +kernel
theorem dL_refuses_768 : decode cL_refuses 768 = .ok (.bipush (-4), 2) := by decide +kernel
theorem dL_refuses_770 : decode cL_refuses 770 = .ok (.if_icmp .ne 180, 3) := by decide +kernel
theorem dL_refuses_773 : decode cL_refuses 773 = .ok (.aload_n 0, 1) := by decide +kernel
theorem dL_refuses_774 : decode cL_refuses 774 = .ok (.iload 8, 2) := by decide +kernel
theorem dL_refuses_776 : decode cL_refuses 776 = .ok (.iload 6, 2) := by decide +kernel
theorem dL_refuses_778 : decode cL_refuses 778 = .ok (.iconst 5, 1) := by decide +kernel
theorem dL_refuses_779 : decode cL_refuses 779 = .ok (.invokestatic 206, 3) := by decide +kernel
theorem dL_refuses_782 : decode cL_refuses 782 = .ok (.sipush (-902), 3) := by decide +kernel
theorem dL_refuses_785 : decode cL_refuses 785 = .ok (.if_icmp .ne 165, 3) := by decide +kernel
theorem dL_refuses_788 : decode cL_refuses 788 = .ok (.aload_n 0, 1) := by decide +kernel
theorem dL_refuses_789 : decode cL_refuses 789 = .ok (.iload 8, 2) := by decide +kernel
theorem dL_refuses_791 : decode cL_refuses 791 = .ok (.iload 9, 2) := by decide +kernel
theorem dL_refuses_793 : decode cL_refuses 793 = .ok (.bipush 61, 2) := by decide +kernel
theorem dL_refuses_795 : decode cL_refuses 795 = .ok (.iload_n 1, 1) := by decide +kernel
theorem dL_refuses_796 : decode cL_refuses 796 = .ok (.iadd, 1) := by decide +kernel
theorem dL_refuses_797 : decode cL_refuses 797 = .ok (.invokestatic 206, 3) := by decide +kernel
theorem dL_refuses_800 : decode cL_refuses 800 = .ok (.sipush (-903), 3) := by decide +kernel
theorem dL_refuses_803 : decode cL_refuses 803 = .ok (.if_icmp .ne 147, 3) := by decide +kernel
theorem dL_refuses_806 : decode cL_refuses 806 = .ok (.aload_n 0, 1) := by decide +kernel
theorem dL_refuses_807 : decode cL_refuses 807 = .ok (.iload 8, 2) := by decide +kernel
theorem dL_refuses_809 : decode cL_refuses 809 = .ok (.iload 9, 2) := by decide +kernel
theorem dL_refuses_811 : decode cL_refuses 811 = .ok (.bipush 60, 2) := by decide +kernel
theorem dL_refuses_813 : decode cL_refuses 813 = .ok (.iload_n 1, 1) := by decide +kernel
theorem dL_refuses_814 : decode cL_refuses 814 = .ok (.iadd, 1) := by decide +kernel
theorem dL_refuses_815 : decode cL_refuses 815 = .ok (.invokestatic 208, 3) := by decide +kernel
theorem dL_refuses_818 : decode cL_refuses 818 = .ok (.bipush (-3), 2) := by decide +kernel
theorem dL_refuses_820 : decode cL_refuses 820 = .ok (.if_icmp .ne 130, 3) := by decide +kernel
theorem dL_refuses_823 : decode cL_refuses 823 = .ok (.iload 10, 2) := by decide +kernel
theorem dL_refuses_825 : decode cL_refuses 825 = .ok (.ifCond .eq 28, 3) := by decide +kernel
theorem dL_refuses_828 : decode cL_refuses 828 = .ok (.aload_n 0, 1) := by decide +kernel
theorem dL_refuses_829 : decode cL_refuses 829 = .ok (.iload 8, 2) := by decide +kernel
