theorem d_L_law_733 : decode c_L_law 733 = .ok (.ireturn, 1) := by decide +kernel
theorem d_L_law_734 : decode c_L_law 734 = .ok (.iload 5, 2) := by decide +kernel
theorem d_L_law_736 : decode c_L_law 736 = .ok (.ifCond .ne 15, 3) := by decide +kernel
theorem d_L_law_739 : decode c_L_law 739 = .ok (.aload_n 3, 1) := by decide +kernel
theorem d_L_law_740 : decode c_L_law 740 = .ok (.iconst 0, 1) := by decide +kernel
theorem d_L_law_741 : decode c_L_law 741 = .ok (.laload, 1) := by decide +kernel
theorem d_L_law_742 : decode c_L_law 742 = .ok (.iload 6, 2) := by decide +kernel
theorem d_L_law_744 : decode c_L_law 744 = .ok (.i2l, 1) := by decide +kernel
theorem d_L_law_745 : decode c_L_law 745 = .ok (.lcmp, 1) := by decide +kernel
theorem d_L_law_746 : decode c_L_law 746 = .ok (.ifCond .eq 5, 3) := by decide +kernel
theorem d_L_law_749 : decode c_L_law 749 = .ok (.iconst 0, 1) := by decide +kernel
theorem d_L_law_750 : decode c_L_law 750 = .ok (.ireturn, 1) := by decide +kernel
theorem d_L_law_751 : decode c_L_law 751 = .ok (.goto 290, 3) := by decide +kernel
theorem d_L_law_754 : decode c_L_law 754 = .ok (.aload_n 1, 1) := by decide +kernel
theorem d_L_law_755 : decode c_L_law 755 = .ok (.aload_n 0, 1) := by decide +kernel
theorem d_L_law_756 : decode c_L_law 756 = .ok (.iload 4, 2) := by decide +kernel
theorem d_L_law_758 : decode c_L_law 758 = .ok (.iconst 1, 1) := by decide +kernel
theorem d_L_law_759 : decode c_L_law 759 = .ok (.iadd, 1) := by decide +kernel
theorem d_L_law_760 : decode c_L_law 760 = .ok (.iaload, 1) := by decide +kernel
theorem d_L_law_761 : decode c_L_law 761 = .ok (.aload_n 3, 1) := by decide +kernel
theorem d_L_law_762 : decode c_L_law 762 = .ok (.invokestatic 113, 3) := by decide +kernel
theorem d_L_law_765 : decode c_L_law 765 = .ok (.istore 5, 2) := by decide +kernel
theorem d_L_law_767 : decode c_L_law 767 = .ok (.aload_n 2, 1) := by decide +kernel
theorem d_L_law_768 : decode c_L_law 768 = .ok (.aload_n 0, 1) := by decide +kernel
theorem d_L_law_769 : decode c_L_law 769 = .ok (.iload 4, 2) := by decide +kernel
theorem d_L_law_771 : decode c_L_law 771 = .ok (.iconst 1, 1) := by decide +kernel
theorem d_L_law_772 : decode c_L_law 772 = .ok (.iadd, 1) := by decide +kernel
theorem d_L_law_773 : decode c_L_law 773 = .ok (.iaload, 1) := by decide +kernel
theorem d_L_law_774 : decode c_L_law 774 = .ok (.invokevirtual 115, 3) := by decide +kernel
theorem d_L_law_777 : decode c_L_law 777 = .ok (.lstore 6, 2) := by decide +kernel
theorem d_L_law_779 : decode c_L_law 779 = .ok (.aload_n 2, 1) := by decide +kernel
theorem d_L_law_780 : decode c_L_law 780 = .ok (.invokevirtual 74, 3) := by decide +kernel
theorem d_L_law_783 : decode c_L_law 783 = .ok (.iload 5, 2) := by decide +kernel
theorem d_L_law_785 : decode c_L_law 785 = .ok (.if_icmp .eq 5, 3) := by decide +kernel
theorem d_L_law_788 : decode c_L_law 788 = .ok (.iconst 0, 1) := by decide +kernel
theorem d_L_law_789 : decode c_L_law 789 = .ok (.ireturn, 1) := by decide +kernel
theorem d_L_law_790 : decode c_L_law 790 = .ok (.iload 5, 2) := by decide +kernel
theorem d_L_law_792 : decode c_L_law 792 = .ok (.ifCond .ne 14, 3) := by decide +kernel
theorem d_L_law_795 : decode c_L_law 795 = .ok (.aload_n 3, 1) := by decide +kernel
theorem d_L_law_796 : decode c_L_law 796 = .ok (.iconst 0, 1) := by decide +kernel
theorem d_L_law_797 : decode c_L_law 797 = .ok (.laload, 1) := by decide +kernel
theorem d_L_law_798 : decode c_L_law 798 = .ok (.lload 6, 2) := by decide +kernel
theorem d_L_law_800 : decode c_L_law 800 = .ok (.lcmp, 1) := by decide +kernel
theorem d_L_law_801 : decode c_L_law 801 = .ok (.ifCond .eq 5, 3) := by decide +kernel
theorem d_L_law_804 : decode c_L_law 804 = .ok (.iconst 0, 1) := by decide +kernel
theorem d_L_law_805 : decode c_L_law 805 = .ok (.ireturn, 1) := by decide +kernel
theorem d_L_law_806 : decode c_L_law 806 = .ok (.goto 235, 3) := by decide +kernel
theorem d_L_law_809 : decode c_L_law 809 = .ok (.aload_n 1, 1) := by decide +kernel
theorem d_L_law_810 : decode c_L_law 810 = .ok (.aload_n 0, 1) := by decide +kernel
theorem d_L_law_811 : decode c_L_law 811 = .ok (.iload 4, 2) := by decide +kernel
theorem d_L_law_813 : decode c_L_law 813 = .ok (.iconst 1, 1) := by decide +kernel
theorem d_L_law_814 : decode c_L_law 814 = .ok (.iadd, 1) := by decide +kernel
theorem d_L_law_815 : decode c_L_law 815 = .ok (.iaload, 1) := by decide +kernel
theorem d_L_law_816 : decode c_L_law 816 = .ok (.aload_n 3, 1) := by decide +kernel
theorem d_L_law_817 : decode c_L_law 817 = .ok (.invokestatic 116, 3) := by decide +kernel
theorem d_L_law_820 : decode c_L_law 820 = .ok (.istore 5, 2) := by decide +kernel
theorem d_L_law_822 : decode c_L_law 822 = .ok (.aload_n 2, 1) := by decide +kernel
theorem d_L_law_823 : decode c_L_law 823 = .ok (.aload_n 0, 1) := by decide +kernel
theorem d_L_law_824 : decode c_L_law 824 = .ok (.iload 4, 2) := by decide +kernel
theorem d_L_law_826 : decode c_L_law 826 = .ok (.iconst 1, 1) := by decide +kernel
theorem d_L_law_827 : decode c_L_law 827 = .ok (.iadd, 1) := by decide +kernel
theorem d_L_law_828 : decode c_L_law 828 = .ok (.iaload, 1) := by decide +kernel
theorem d_L_law_829 : decode c_L_law 829 = .ok (.invokevirtual 118, 3) := by decide +kernel
theorem d_L_law_832 : decode c_L_law 832 = .ok (.istore 6, 2) := by decide +kernel
theorem d_L_law_834 : decode c_L_law 834 = .ok (.aload_n 2, 1) := by decide +kernel
theorem d_L_law_835 : decode c_L_law 835 = .ok (.invokevirtual 74, 3) := by decide +kernel
theorem d_L_law_838 : decode c_L_law 838 = .ok (.iload 5, 2) := by decide +kernel
theorem d_L_law_840 : decode c_L_law 840 = .ok (.if_icmp .eq 5, 3) := by decide +kernel
theorem d_L_law_843 : decode c_L_law 843 = .ok (.iconst 0, 1) := by decide +kernel
theorem d_L_law_844 : decode c_L_law 844 = .ok (.ireturn, 1) := by decide +kernel
theorem d_L_law_845 : decode c_L_law 845 = .ok (.iload 5, 2) := by decide +kernel
theorem d_L_law_847 : decode c_L_law 847 = .ok (.ifCond .ne 15, 3) := by decide +kernel
theorem d_L_law_850 : decode c_L_law 850 = .ok (.aload_n 3, 1) := by decide +kernel
theorem d_L_law_851 : decode c_L_law 851 = .ok (.iconst 0, 1) := by decide +kernel
theorem d_L_law_852 : decode c_L_law 852 = .ok (.laload, 1) := by decide +kernel
theorem d_L_law_853 : decode c_L_law 853 = .ok (.iload 6, 2) := by decide +kernel
theorem d_L_law_855 : decode c_L_law 855 = .ok (.i2l, 1) := by decide +kernel
theorem d_L_law_856 : decode c_L_law 856 = .ok (.lcmp, 1) := by decide +kernel
theorem d_L_law_857 : decode c_L_law 857 = .ok (.ifCond .eq 5, 3) := by decide +kernel
theorem d_L_law_860 : decode c_L_law 860 = .ok (.iconst 0, 1) := by decide +kernel
theorem d_L_law_861 : decode c_L_law 861 = .ok (.ireturn, 1) := by decide +kernel
theorem d_L_law_862 : decode c_L_law 862 = .ok (.goto 179, 3) := by decide +kernel
theorem d_L_law_865 : decode c_L_law 865 = .ok (.aload_n 1, 1) := by decide +kernel
theorem d_L_law_866 : decode c_L_law 866 = .ok (.aload_n 0, 1) := by decide +kernel
theorem d_L_law_867 : decode c_L_law 867 = .ok (.iload 4, 2) := by decide +kernel
theorem d_L_law_869 : decode c_L_law 869 = .ok (.iconst 1, 1) := by decide +kernel
theorem d_L_law_870 : decode c_L_law 870 = .ok (.iadd, 1) := by decide +kernel
theorem d_L_law_871 : decode c_L_law 871 = .ok (.iaload, 1) := by decide +kernel
theorem d_L_law_872 : decode c_L_law 872 = .ok (.aload_n 0, 1) := by decide +kernel
theorem d_L_law_873 : decode c_L_law 873 = .ok (.iload 4, 2) := by decide +kernel
theorem d_L_law_875 : decode c_L_law 875 = .ok (.iconst 2, 1) := by decide +kernel
theorem d_L_law_876 : decode c_L_law 876 = .ok (.iadd, 1) := by decide +kernel
theorem d_L_law_877 : decode c_L_law 877 = .ok (.iaload, 1) := by decide +kernel
theorem d_L_law_878 : decode c_L_law 878 = .ok (.i2l, 1) := by decide +kernel
theorem d_L_law_879 : decode c_L_law 879 = .ok (.bipush 32, 2) := by decide +kernel
theorem d_L_law_881 : decode c_L_law 881 = .ok (.lshl, 1) := by decide +kernel
theorem d_L_law_882 : decode c_L_law 882 = .ok (.aload_n 0, 1) := by decide +kernel
theorem d_L_law_883 : decode c_L_law 883 = .ok (.iload 4, 2) := by decide +kernel
theorem d_L_law_885 : decode c_L_law 885 = .ok (.iconst 3, 1) := by decide +kernel
theorem d_L_law_886 : decode c_L_law 886 = .ok (.iadd, 1) := by decide +kernel
theorem d_L_law_887 : decode c_L_law 887 = .ok (.iaload, 1) := by decide +kernel
theorem d_L_law_888 : decode c_L_law 888 = .ok (.i2l, 1) := by decide +kernel
theorem d_L_law_889 : decode c_L_law 889 = .ok (.ldc2_w 107, 3) := by decide +kernel
theorem d_L_law_892 : decode c_L_law 892 = .ok (.land, 1) := by decide +kernel
theorem d_L_law_893 : decode c_L_law 893 = .ok (.lor, 1) := by decide +kernel
theorem d_L_law_894 : decode c_L_law 894 = .ok (.aload_n 0, 1) := by decide +kernel
theorem d_L_law_895 : decode c_L_law 895 = .ok (.iload 4, 2) := by decide +kernel
theorem d_L_law_897 : decode c_L_law 897 = .ok (.iconst 4, 1) := by decide +kernel
theorem d_L_law_898 : decode c_L_law 898 = .ok (.iadd, 1) := by decide +kernel
theorem d_L_law_899 : decode c_L_law 899 = .ok (.iaload, 1) := by decide +kernel
