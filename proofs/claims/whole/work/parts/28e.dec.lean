theorem d_L_law_710 : decode b_L_law 710 = .ok (.aload_n 0, 1) := by decide +kernel
theorem d_L_law_711 : decode b_L_law 711 = .ok (.iload_n 3, 1) := by decide +kernel
theorem d_L_law_712 : decode b_L_law 712 = .ok (.iconst 1, 1) := by decide +kernel
theorem d_L_law_713 : decode b_L_law 713 = .ok (.iadd, 1) := by decide +kernel
theorem d_L_law_714 : decode b_L_law 714 = .ok (.iaload, 1) := by decide +kernel
theorem d_L_law_715 : decode b_L_law 715 = .ok (.ifCond .eq 7, 3) := by decide +kernel
theorem d_L_law_718 : decode b_L_law 718 = .ok (.iconst 1, 1) := by decide +kernel
theorem d_L_law_719 : decode b_L_law 719 = .ok (.goto 4, 3) := by decide +kernel
theorem d_L_law_722 : decode b_L_law 722 = .ok (.iconst 0, 1) := by decide +kernel
theorem d_L_law_723 : decode b_L_law 723 = .ok (.invokevirtual 75, 3) := by decide +kernel
theorem d_L_law_726 : decode b_L_law 726 = .ok (.aload_n 2, 1) := by decide +kernel
theorem d_L_law_727 : decode b_L_law 727 = .ok (.aload_n 0, 1) := by decide +kernel
theorem d_L_law_728 : decode b_L_law 728 = .ok (.iload_n 3, 1) := by decide +kernel
theorem d_L_law_729 : decode b_L_law 729 = .ok (.iconst 1, 1) := by decide +kernel
theorem d_L_law_730 : decode b_L_law 730 = .ok (.iadd, 1) := by decide +kernel
theorem d_L_law_731 : decode b_L_law 731 = .ok (.iaload, 1) := by decide +kernel
theorem d_L_law_732 : decode b_L_law 732 = .ok (.ifCond .eq 7, 3) := by decide +kernel
theorem d_L_law_735 : decode b_L_law 735 = .ok (.iconst 1, 1) := by decide +kernel
theorem d_L_law_736 : decode b_L_law 736 = .ok (.goto 4, 3) := by decide +kernel
theorem d_L_law_739 : decode b_L_law 739 = .ok (.iconst 0, 1) := by decide +kernel
theorem d_L_law_740 : decode b_L_law 740 = .ok (.invokevirtual 79, 3) := by decide +kernel
theorem d_L_law_743 : decode b_L_law 743 = .ok (.lcmp, 1) := by decide +kernel
theorem d_L_law_744 : decode b_L_law 744 = .ok (.ifCond .eq 252, 3) := by decide +kernel
theorem d_L_law_747 : decode b_L_law 747 = .ok (.iconst 0, 1) := by decide +kernel
theorem d_L_law_748 : decode b_L_law 748 = .ok (.ireturn, 1) := by decide +kernel
theorem d_L_law_749 : decode b_L_law 749 = .ok (.aload_n 1, 1) := by decide +kernel
theorem d_L_law_750 : decode b_L_law 750 = .ok (.invokevirtual 80, 3) := by decide +kernel
theorem d_L_law_753 : decode b_L_law 753 = .ok (.aload_n 2, 1) := by decide +kernel
theorem d_L_law_754 : decode b_L_law 754 = .ok (.invokevirtual 83, 3) := by decide +kernel
theorem d_L_law_757 : decode b_L_law 757 = .ok (.if_icmp .eq 239, 3) := by decide +kernel
theorem d_L_law_760 : decode b_L_law 760 = .ok (.iconst 0, 1) := by decide +kernel
theorem d_L_law_761 : decode b_L_law 761 = .ok (.ireturn, 1) := by decide +kernel
theorem d_L_law_762 : decode b_L_law 762 = .ok (.aload_n 1, 1) := by decide +kernel
theorem d_L_law_763 : decode b_L_law 763 = .ok (.invokevirtual 84, 3) := by decide +kernel
theorem d_L_law_766 : decode b_L_law 766 = .ok (.aload_n 2, 1) := by decide +kernel
theorem d_L_law_767 : decode b_L_law 767 = .ok (.invokevirtual 87, 3) := by decide +kernel
theorem d_L_law_770 : decode b_L_law 770 = .ok (.lcmp, 1) := by decide +kernel
theorem d_L_law_771 : decode b_L_law 771 = .ok (.ifCond .eq 225, 3) := by decide +kernel
theorem d_L_law_774 : decode b_L_law 774 = .ok (.iconst 0, 1) := by decide +kernel
theorem d_L_law_775 : decode b_L_law 775 = .ok (.ireturn, 1) := by decide +kernel
theorem d_L_law_776 : decode b_L_law 776 = .ok (.aload_n 1, 1) := by decide +kernel
theorem d_L_law_777 : decode b_L_law 777 = .ok (.invokevirtual 88, 3) := by decide +kernel
theorem d_L_law_780 : decode b_L_law 780 = .ok (.aload_n 2, 1) := by decide +kernel
theorem d_L_law_781 : decode b_L_law 781 = .ok (.invokevirtual 91, 3) := by decide +kernel
theorem d_L_law_784 : decode b_L_law 784 = .ok (.lcmp, 1) := by decide +kernel
theorem d_L_law_785 : decode b_L_law 785 = .ok (.ifCond .eq 211, 3) := by decide +kernel
theorem d_L_law_788 : decode b_L_law 788 = .ok (.iconst 0, 1) := by decide +kernel
theorem d_L_law_789 : decode b_L_law 789 = .ok (.ireturn, 1) := by decide +kernel
theorem d_L_law_790 : decode b_L_law 790 = .ok (.aload_n 1, 1) := by decide +kernel
theorem d_L_law_791 : decode b_L_law 791 = .ok (.aload_n 0, 1) := by decide +kernel
theorem d_L_law_792 : decode b_L_law 792 = .ok (.iload_n 3, 1) := by decide +kernel
theorem d_L_law_793 : decode b_L_law 793 = .ok (.iconst 1, 1) := by decide +kernel
theorem d_L_law_794 : decode b_L_law 794 = .ok (.iadd, 1) := by decide +kernel
theorem d_L_law_795 : decode b_L_law 795 = .ok (.iaload, 1) := by decide +kernel
theorem d_L_law_796 : decode b_L_law 796 = .ok (.aload_n 0, 1) := by decide +kernel
theorem d_L_law_797 : decode b_L_law 797 = .ok (.iload_n 3, 1) := by decide +kernel
theorem d_L_law_798 : decode b_L_law 798 = .ok (.iconst 2, 1) := by decide +kernel
theorem d_L_law_799 : decode b_L_law 799 = .ok (.iadd, 1) := by decide +kernel
theorem d_L_law_800 : decode b_L_law 800 = .ok (.iaload, 1) := by decide +kernel
theorem d_L_law_801 : decode b_L_law 801 = .ok (.aload_n 0, 1) := by decide +kernel
theorem d_L_law_802 : decode b_L_law 802 = .ok (.iload_n 3, 1) := by decide +kernel
theorem d_L_law_803 : decode b_L_law 803 = .ok (.iconst 3, 1) := by decide +kernel
theorem d_L_law_804 : decode b_L_law 804 = .ok (.iadd, 1) := by decide +kernel
theorem d_L_law_805 : decode b_L_law 805 = .ok (.iaload, 1) := by decide +kernel
theorem d_L_law_806 : decode b_L_law 806 = .ok (.invokevirtual 92, 3) := by decide +kernel
theorem d_L_law_809 : decode b_L_law 809 = .ok (.aload_n 2, 1) := by decide +kernel
theorem d_L_law_810 : decode b_L_law 810 = .ok (.aload_n 0, 1) := by decide +kernel
theorem d_L_law_811 : decode b_L_law 811 = .ok (.iload_n 3, 1) := by decide +kernel
theorem d_L_law_812 : decode b_L_law 812 = .ok (.iconst 1, 1) := by decide +kernel
theorem d_L_law_813 : decode b_L_law 813 = .ok (.iadd, 1) := by decide +kernel
theorem d_L_law_814 : decode b_L_law 814 = .ok (.iaload, 1) := by decide +kernel
theorem d_L_law_815 : decode b_L_law 815 = .ok (.aload_n 0, 1) := by decide +kernel
theorem d_L_law_816 : decode b_L_law 816 = .ok (.iload_n 3, 1) := by decide +kernel
theorem d_L_law_817 : decode b_L_law 817 = .ok (.iconst 2, 1) := by decide +kernel
theorem d_L_law_818 : decode b_L_law 818 = .ok (.iadd, 1) := by decide +kernel
theorem d_L_law_819 : decode b_L_law 819 = .ok (.iaload, 1) := by decide +kernel
theorem d_L_law_820 : decode b_L_law 820 = .ok (.aload_n 0, 1) := by decide +kernel
theorem d_L_law_821 : decode b_L_law 821 = .ok (.iload_n 3, 1) := by decide +kernel
theorem d_L_law_822 : decode b_L_law 822 = .ok (.iconst 3, 1) := by decide +kernel
theorem d_L_law_823 : decode b_L_law 823 = .ok (.iadd, 1) := by decide +kernel
theorem d_L_law_824 : decode b_L_law 824 = .ok (.iaload, 1) := by decide +kernel
theorem d_L_law_825 : decode b_L_law 825 = .ok (.invokevirtual 96, 3) := by decide +kernel
theorem d_L_law_828 : decode b_L_law 828 = .ok (.lcmp, 1) := by decide +kernel
theorem d_L_law_829 : decode b_L_law 829 = .ok (.ifCond .eq 167, 3) := by decide +kernel
theorem d_L_law_832 : decode b_L_law 832 = .ok (.iconst 0, 1) := by decide +kernel
theorem d_L_law_833 : decode b_L_law 833 = .ok (.ireturn, 1) := by decide +kernel
theorem d_L_law_834 : decode b_L_law 834 = .ok (.aload_n 1, 1) := by decide +kernel
theorem d_L_law_835 : decode b_L_law 835 = .ok (.aload_n 0, 1) := by decide +kernel
theorem d_L_law_836 : decode b_L_law 836 = .ok (.iload_n 3, 1) := by decide +kernel
theorem d_L_law_837 : decode b_L_law 837 = .ok (.iconst 1, 1) := by decide +kernel
theorem d_L_law_838 : decode b_L_law 838 = .ok (.iadd, 1) := by decide +kernel
theorem d_L_law_839 : decode b_L_law 839 = .ok (.iaload, 1) := by decide +kernel
theorem d_L_law_840 : decode b_L_law 840 = .ok (.aload_n 0, 1) := by decide +kernel
theorem d_L_law_841 : decode b_L_law 841 = .ok (.iload_n 3, 1) := by decide +kernel
theorem d_L_law_842 : decode b_L_law 842 = .ok (.iconst 2, 1) := by decide +kernel
theorem d_L_law_843 : decode b_L_law 843 = .ok (.iadd, 1) := by decide +kernel
theorem d_L_law_844 : decode b_L_law 844 = .ok (.iaload, 1) := by decide +kernel
theorem d_L_law_845 : decode b_L_law 845 = .ok (.aload_n 0, 1) := by decide +kernel
theorem d_L_law_846 : decode b_L_law 846 = .ok (.iload_n 3, 1) := by decide +kernel
theorem d_L_law_847 : decode b_L_law 847 = .ok (.iconst 3, 1) := by decide +kernel
theorem d_L_law_848 : decode b_L_law 848 = .ok (.iadd, 1) := by decide +kernel
theorem d_L_law_849 : decode b_L_law 849 = .ok (.iaload, 1) := by decide +kernel
theorem d_L_law_850 : decode b_L_law 850 = .ok (.i2l, 1) := by decide +kernel
theorem d_L_law_851 : decode b_L_law 851 = .ok (.bipush 32, 2) := by decide +kernel
theorem d_L_law_853 : decode b_L_law 853 = .ok (.lshl, 1) := by decide +kernel
theorem d_L_law_854 : decode b_L_law 854 = .ok (.aload_n 0, 1) := by decide +kernel
theorem d_L_law_855 : decode b_L_law 855 = .ok (.iload_n 3, 1) := by decide +kernel
theorem d_L_law_856 : decode b_L_law 856 = .ok (.iconst 4, 1) := by decide +kernel
theorem d_L_law_857 : decode b_L_law 857 = .ok (.iadd, 1) := by decide +kernel
theorem d_L_law_858 : decode b_L_law 858 = .ok (.iaload, 1) := by decide +kernel
theorem d_L_law_859 : decode b_L_law 859 = .ok (.i2l, 1) := by decide +kernel
theorem d_L_law_860 : decode b_L_law 860 = .ok (.ldc2_w 31, 3) := by decide +kernel
theorem d_L_law_863 : decode b_L_law 863 = .ok (.land, 1) := by decide +kernel
theorem d_L_law_864 : decode b_L_law 864 = .ok (.lor, 1) := by decide +kernel
theorem d_L_law_865 : decode b_L_law 865 = .ok (.aload_n 0, 1) := by decide +kernel
theorem d_L_law_866 : decode b_L_law 866 = .ok (.iload_n 3, 1) := by decide +kernel
theorem d_L_law_867 : decode b_L_law 867 = .ok (.iconst 5, 1) := by decide +kernel
theorem d_L_law_868 : decode b_L_law 868 = .ok (.iadd, 1) := by decide +kernel
theorem d_L_law_869 : decode b_L_law 869 = .ok (.iaload, 1) := by decide +kernel
theorem d_L_law_870 : decode b_L_law 870 = .ok (.i2l, 1) := by decide +kernel
