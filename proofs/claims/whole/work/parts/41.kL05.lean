theorem d_L_law_703 : decode (qB q_L_law) 703 = .ok (.iaload, 1) := by decide +kernel
theorem d_L_law_704 : decode (qB q_L_law) 704 = .ok (.i2l, 1) := by decide +kernel
theorem d_L_law_705 : decode (qB q_L_law) 705 = .ok (.bipush 32, 2) := by decide +kernel
theorem d_L_law_707 : decode (qB q_L_law) 707 = .ok (.lshl, 1) := by decide +kernel
theorem d_L_law_708 : decode (qB q_L_law) 708 = .ok (.aload_n 0, 1) := by decide +kernel
theorem d_L_law_709 : decode (qB q_L_law) 709 = .ok (.iload_n 3, 1) := by decide +kernel
theorem d_L_law_710 : decode (qB q_L_law) 710 = .ok (.iconst 4, 1) := by decide +kernel
theorem d_L_law_711 : decode (qB q_L_law) 711 = .ok (.iadd, 1) := by decide +kernel
theorem d_L_law_712 : decode (qB q_L_law) 712 = .ok (.iaload, 1) := by decide +kernel
theorem d_L_law_713 : decode (qB q_L_law) 713 = .ok (.i2l, 1) := by decide +kernel
theorem d_L_law_714 : decode (qB q_L_law) 714 = .ok (.ldc2_w 35, 3) := by decide +kernel
theorem d_L_law_717 : decode (qB q_L_law) 717 = .ok (.land, 1) := by decide +kernel
theorem d_L_law_718 : decode (qB q_L_law) 718 = .ok (.lor, 1) := by decide +kernel
theorem d_L_law_719 : decode (qB q_L_law) 719 = .ok (.invokevirtual 76, 3) := by decide +kernel
theorem d_L_law_722 : decode (qB q_L_law) 722 = .ok (.if_icmp .eq 278, 3) := by decide +kernel
theorem d_L_law_725 : decode (qB q_L_law) 725 = .ok (.iconst 0, 1) := by decide +kernel
theorem d_L_law_726 : decode (qB q_L_law) 726 = .ok (.ireturn, 1) := by decide +kernel
theorem d_L_law_727 : decode (qB q_L_law) 727 = .ok (.aload_n 1, 1) := by decide +kernel
theorem d_L_law_728 : decode (qB q_L_law) 728 = .ok (.aload_n 0, 1) := by decide +kernel
theorem d_L_law_729 : decode (qB q_L_law) 729 = .ok (.iload_n 3, 1) := by decide +kernel
theorem d_L_law_730 : decode (qB q_L_law) 730 = .ok (.iconst 1, 1) := by decide +kernel
theorem d_L_law_731 : decode (qB q_L_law) 731 = .ok (.iadd, 1) := by decide +kernel
theorem d_L_law_732 : decode (qB q_L_law) 732 = .ok (.iaload, 1) := by decide +kernel
theorem d_L_law_733 : decode (qB q_L_law) 733 = .ok (.aload_n 0, 1) := by decide +kernel
theorem d_L_law_734 : decode (qB q_L_law) 734 = .ok (.iload_n 3, 1) := by decide +kernel
theorem d_L_law_735 : decode (qB q_L_law) 735 = .ok (.iconst 2, 1) := by decide +kernel
theorem d_L_law_736 : decode (qB q_L_law) 736 = .ok (.iadd, 1) := by decide +kernel
theorem d_L_law_737 : decode (qB q_L_law) 737 = .ok (.iaload, 1) := by decide +kernel
theorem d_L_law_738 : decode (qB q_L_law) 738 = .ok (.aload_n 0, 1) := by decide +kernel
theorem d_L_law_739 : decode (qB q_L_law) 739 = .ok (.iload_n 3, 1) := by decide +kernel
theorem d_L_law_740 : decode (qB q_L_law) 740 = .ok (.iconst 3, 1) := by decide +kernel
theorem d_L_law_741 : decode (qB q_L_law) 741 = .ok (.iadd, 1) := by decide +kernel
theorem d_L_law_742 : decode (qB q_L_law) 742 = .ok (.iaload, 1) := by decide +kernel
theorem d_L_law_743 : decode (qB q_L_law) 743 = .ok (.invokevirtual 77, 3) := by decide +kernel
theorem d_L_law_746 : decode (qB q_L_law) 746 = .ok (.aload_n 2, 1) := by decide +kernel
theorem d_L_law_747 : decode (qB q_L_law) 747 = .ok (.aload_n 0, 1) := by decide +kernel
theorem d_L_law_748 : decode (qB q_L_law) 748 = .ok (.iload_n 3, 1) := by decide +kernel
theorem d_L_law_749 : decode (qB q_L_law) 749 = .ok (.iconst 1, 1) := by decide +kernel
theorem d_L_law_750 : decode (qB q_L_law) 750 = .ok (.iadd, 1) := by decide +kernel
theorem d_L_law_751 : decode (qB q_L_law) 751 = .ok (.iaload, 1) := by decide +kernel
theorem d_L_law_752 : decode (qB q_L_law) 752 = .ok (.aload_n 0, 1) := by decide +kernel
theorem d_L_law_753 : decode (qB q_L_law) 753 = .ok (.iload_n 3, 1) := by decide +kernel
theorem d_L_law_754 : decode (qB q_L_law) 754 = .ok (.iconst 2, 1) := by decide +kernel
theorem d_L_law_755 : decode (qB q_L_law) 755 = .ok (.iadd, 1) := by decide +kernel
theorem d_L_law_756 : decode (qB q_L_law) 756 = .ok (.iaload, 1) := by decide +kernel
theorem d_L_law_757 : decode (qB q_L_law) 757 = .ok (.aload_n 0, 1) := by decide +kernel
theorem d_L_law_758 : decode (qB q_L_law) 758 = .ok (.iload_n 3, 1) := by decide +kernel
theorem d_L_law_759 : decode (qB q_L_law) 759 = .ok (.iconst 3, 1) := by decide +kernel
theorem d_L_law_760 : decode (qB q_L_law) 760 = .ok (.iadd, 1) := by decide +kernel
theorem d_L_law_761 : decode (qB q_L_law) 761 = .ok (.iaload, 1) := by decide +kernel
theorem d_L_law_762 : decode (qB q_L_law) 762 = .ok (.invokevirtual 81, 3) := by decide +kernel
theorem d_L_law_765 : decode (qB q_L_law) 765 = .ok (.lcmp, 1) := by decide +kernel
theorem d_L_law_766 : decode (qB q_L_law) 766 = .ok (.ifCond .eq 234, 3) := by decide +kernel
theorem d_L_law_769 : decode (qB q_L_law) 769 = .ok (.iconst 0, 1) := by decide +kernel
theorem d_L_law_770 : decode (qB q_L_law) 770 = .ok (.ireturn, 1) := by decide +kernel
theorem d_L_law_771 : decode (qB q_L_law) 771 = .ok (.aload_n 1, 1) := by decide +kernel
theorem d_L_law_772 : decode (qB q_L_law) 772 = .ok (.aload_n 0, 1) := by decide +kernel
theorem d_L_law_773 : decode (qB q_L_law) 773 = .ok (.iload_n 3, 1) := by decide +kernel
theorem d_L_law_774 : decode (qB q_L_law) 774 = .ok (.iconst 1, 1) := by decide +kernel
theorem d_L_law_775 : decode (qB q_L_law) 775 = .ok (.iadd, 1) := by decide +kernel
theorem d_L_law_776 : decode (qB q_L_law) 776 = .ok (.iaload, 1) := by decide +kernel
theorem d_L_law_777 : decode (qB q_L_law) 777 = .ok (.aload_n 0, 1) := by decide +kernel
theorem d_L_law_778 : decode (qB q_L_law) 778 = .ok (.iload_n 3, 1) := by decide +kernel
theorem d_L_law_779 : decode (qB q_L_law) 779 = .ok (.iconst 2, 1) := by decide +kernel
theorem d_L_law_780 : decode (qB q_L_law) 780 = .ok (.iadd, 1) := by decide +kernel
theorem d_L_law_781 : decode (qB q_L_law) 781 = .ok (.iaload, 1) := by decide +kernel
theorem d_L_law_782 : decode (qB q_L_law) 782 = .ok (.aload_n 0, 1) := by decide +kernel
theorem d_L_law_783 : decode (qB q_L_law) 783 = .ok (.iload_n 3, 1) := by decide +kernel
theorem d_L_law_784 : decode (qB q_L_law) 784 = .ok (.iconst 3, 1) := by decide +kernel
theorem d_L_law_785 : decode (qB q_L_law) 785 = .ok (.iadd, 1) := by decide +kernel
theorem d_L_law_786 : decode (qB q_L_law) 786 = .ok (.iaload, 1) := by decide +kernel
theorem d_L_law_787 : decode (qB q_L_law) 787 = .ok (.aload_n 0, 1) := by decide +kernel
theorem d_L_law_788 : decode (qB q_L_law) 788 = .ok (.iload_n 3, 1) := by decide +kernel
theorem d_L_law_789 : decode (qB q_L_law) 789 = .ok (.iconst 4, 1) := by decide +kernel
theorem d_L_law_790 : decode (qB q_L_law) 790 = .ok (.iadd, 1) := by decide +kernel
theorem d_L_law_791 : decode (qB q_L_law) 791 = .ok (.iaload, 1) := by decide +kernel
theorem d_L_law_792 : decode (qB q_L_law) 792 = .ok (.i2l, 1) := by decide +kernel
theorem d_L_law_793 : decode (qB q_L_law) 793 = .ok (.bipush 32, 2) := by decide +kernel
theorem d_L_law_795 : decode (qB q_L_law) 795 = .ok (.lshl, 1) := by decide +kernel
theorem d_L_law_796 : decode (qB q_L_law) 796 = .ok (.aload_n 0, 1) := by decide +kernel
theorem d_L_law_797 : decode (qB q_L_law) 797 = .ok (.iload_n 3, 1) := by decide +kernel
theorem d_L_law_798 : decode (qB q_L_law) 798 = .ok (.iconst 5, 1) := by decide +kernel
theorem d_L_law_799 : decode (qB q_L_law) 799 = .ok (.iadd, 1) := by decide +kernel
theorem d_L_law_800 : decode (qB q_L_law) 800 = .ok (.iaload, 1) := by decide +kernel
theorem d_L_law_801 : decode (qB q_L_law) 801 = .ok (.i2l, 1) := by decide +kernel
theorem d_L_law_802 : decode (qB q_L_law) 802 = .ok (.ldc2_w 35, 3) := by decide +kernel
theorem d_L_law_805 : decode (qB q_L_law) 805 = .ok (.land, 1) := by decide +kernel
theorem d_L_law_806 : decode (qB q_L_law) 806 = .ok (.lor, 1) := by decide +kernel
theorem d_L_law_807 : decode (qB q_L_law) 807 = .ok (.invokevirtual 82, 3) := by decide +kernel
theorem d_L_law_810 : decode (qB q_L_law) 810 = .ok (.aload_n 2, 1) := by decide +kernel
theorem d_L_law_811 : decode (qB q_L_law) 811 = .ok (.aload_n 0, 1) := by decide +kernel
theorem d_L_law_812 : decode (qB q_L_law) 812 = .ok (.iload_n 3, 1) := by decide +kernel
theorem d_L_law_813 : decode (qB q_L_law) 813 = .ok (.iconst 1, 1) := by decide +kernel
theorem d_L_law_814 : decode (qB q_L_law) 814 = .ok (.iadd, 1) := by decide +kernel
theorem d_L_law_815 : decode (qB q_L_law) 815 = .ok (.iaload, 1) := by decide +kernel
theorem d_L_law_816 : decode (qB q_L_law) 816 = .ok (.aload_n 0, 1) := by decide +kernel
theorem d_L_law_817 : decode (qB q_L_law) 817 = .ok (.iload_n 3, 1) := by decide +kernel
theorem d_L_law_818 : decode (qB q_L_law) 818 = .ok (.iconst 2, 1) := by decide +kernel
theorem d_L_law_819 : decode (qB q_L_law) 819 = .ok (.iadd, 1) := by decide +kernel
theorem d_L_law_820 : decode (qB q_L_law) 820 = .ok (.iaload, 1) := by decide +kernel
