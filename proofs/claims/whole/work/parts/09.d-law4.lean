theorem d_L_law_753 : decode c_L_law 753 = .ok (.aload_n 0, 1) := by decide +kernel
theorem d_L_law_754 : decode c_L_law 754 = .ok (.iload 4, 2) := by decide +kernel
theorem d_L_law_756 : decode c_L_law 756 = .ok (.iconst 1, 1) := by decide +kernel
theorem d_L_law_757 : decode c_L_law 757 = .ok (.iadd, 1) := by decide +kernel
theorem d_L_law_758 : decode c_L_law 758 = .ok (.iaload, 1) := by decide +kernel
theorem d_L_law_759 : decode c_L_law 759 = .ok (.aload_n 0, 1) := by decide +kernel
theorem d_L_law_760 : decode c_L_law 760 = .ok (.iload 4, 2) := by decide +kernel
theorem d_L_law_762 : decode c_L_law 762 = .ok (.iconst 2, 1) := by decide +kernel
theorem d_L_law_763 : decode c_L_law 763 = .ok (.iadd, 1) := by decide +kernel
theorem d_L_law_764 : decode c_L_law 764 = .ok (.iaload, 1) := by decide +kernel
theorem d_L_law_765 : decode c_L_law 765 = .ok (.aload_n 0, 1) := by decide +kernel
theorem d_L_law_766 : decode c_L_law 766 = .ok (.iload 4, 2) := by decide +kernel
theorem d_L_law_768 : decode c_L_law 768 = .ok (.iconst 3, 1) := by decide +kernel
theorem d_L_law_769 : decode c_L_law 769 = .ok (.iadd, 1) := by decide +kernel
theorem d_L_law_770 : decode c_L_law 770 = .ok (.iaload, 1) := by decide +kernel
theorem d_L_law_771 : decode c_L_law 771 = .ok (.invokevirtual 121, 3) := by decide +kernel
theorem d_L_law_774 : decode c_L_law 774 = .ok (.istore 6, 2) := by decide +kernel
theorem d_L_law_776 : decode c_L_law 776 = .ok (.aload_n 2, 1) := by decide +kernel
theorem d_L_law_777 : decode c_L_law 777 = .ok (.invokevirtual 80, 3) := by decide +kernel
theorem d_L_law_780 : decode c_L_law 780 = .ok (.iload 5, 2) := by decide +kernel
theorem d_L_law_782 : decode c_L_law 782 = .ok (.if_icmp .eq 5, 3) := by decide +kernel
theorem d_L_law_785 : decode c_L_law 785 = .ok (.iconst 0, 1) := by decide +kernel
theorem d_L_law_786 : decode c_L_law 786 = .ok (.ireturn, 1) := by decide +kernel
theorem d_L_law_787 : decode c_L_law 787 = .ok (.iload 5, 2) := by decide +kernel
theorem d_L_law_789 : decode c_L_law 789 = .ok (.ifCond .ne 15, 3) := by decide +kernel
theorem d_L_law_792 : decode c_L_law 792 = .ok (.aload_n 3, 1) := by decide +kernel
theorem d_L_law_793 : decode c_L_law 793 = .ok (.iconst 0, 1) := by decide +kernel
theorem d_L_law_794 : decode c_L_law 794 = .ok (.laload, 1) := by decide +kernel
theorem d_L_law_795 : decode c_L_law 795 = .ok (.iload 6, 2) := by decide +kernel
theorem d_L_law_797 : decode c_L_law 797 = .ok (.i2l, 1) := by decide +kernel
theorem d_L_law_798 : decode c_L_law 798 = .ok (.lcmp, 1) := by decide +kernel
theorem d_L_law_799 : decode c_L_law 799 = .ok (.ifCond .eq 5, 3) := by decide +kernel
theorem d_L_law_802 : decode c_L_law 802 = .ok (.iconst 0, 1) := by decide +kernel
theorem d_L_law_803 : decode c_L_law 803 = .ok (.ireturn, 1) := by decide +kernel
theorem d_L_law_804 : decode c_L_law 804 = .ok (.goto 245, 3) := by decide +kernel
theorem d_L_law_807 : decode c_L_law 807 = .ok (.aload_n 1, 1) := by decide +kernel
theorem d_L_law_808 : decode c_L_law 808 = .ok (.aload_n 0, 1) := by decide +kernel
theorem d_L_law_809 : decode c_L_law 809 = .ok (.iload 4, 2) := by decide +kernel
theorem d_L_law_811 : decode c_L_law 811 = .ok (.iconst 1, 1) := by decide +kernel
theorem d_L_law_812 : decode c_L_law 812 = .ok (.iadd, 1) := by decide +kernel
theorem d_L_law_813 : decode c_L_law 813 = .ok (.iaload, 1) := by decide +kernel
theorem d_L_law_814 : decode c_L_law 814 = .ok (.aload_n 0, 1) := by decide +kernel
theorem d_L_law_815 : decode c_L_law 815 = .ok (.iload 4, 2) := by decide +kernel
theorem d_L_law_817 : decode c_L_law 817 = .ok (.iconst 2, 1) := by decide +kernel
theorem d_L_law_818 : decode c_L_law 818 = .ok (.iadd, 1) := by decide +kernel
theorem d_L_law_819 : decode c_L_law 819 = .ok (.iaload, 1) := by decide +kernel
theorem d_L_law_820 : decode c_L_law 820 = .ok (.aload_n 3, 1) := by decide +kernel
theorem d_L_law_821 : decode c_L_law 821 = .ok (.invokestatic 122, 3) := by decide +kernel
theorem d_L_law_824 : decode c_L_law 824 = .ok (.istore 5, 2) := by decide +kernel
theorem d_L_law_826 : decode c_L_law 826 = .ok (.aload_n 2, 1) := by decide +kernel
theorem d_L_law_827 : decode c_L_law 827 = .ok (.aload_n 0, 1) := by decide +kernel
theorem d_L_law_828 : decode c_L_law 828 = .ok (.iload 4, 2) := by decide +kernel
theorem d_L_law_830 : decode c_L_law 830 = .ok (.iconst 1, 1) := by decide +kernel
theorem d_L_law_831 : decode c_L_law 831 = .ok (.iadd, 1) := by decide +kernel
theorem d_L_law_832 : decode c_L_law 832 = .ok (.iaload, 1) := by decide +kernel
theorem d_L_law_833 : decode c_L_law 833 = .ok (.aload_n 0, 1) := by decide +kernel
theorem d_L_law_834 : decode c_L_law 834 = .ok (.iload 4, 2) := by decide +kernel
theorem d_L_law_836 : decode c_L_law 836 = .ok (.iconst 2, 1) := by decide +kernel
theorem d_L_law_837 : decode c_L_law 837 = .ok (.iadd, 1) := by decide +kernel
theorem d_L_law_838 : decode c_L_law 838 = .ok (.iaload, 1) := by decide +kernel
theorem d_L_law_839 : decode c_L_law 839 = .ok (.invokevirtual 124, 3) := by decide +kernel
theorem d_L_law_842 : decode c_L_law 842 = .ok (.istore 6, 2) := by decide +kernel
theorem d_L_law_844 : decode c_L_law 844 = .ok (.aload_n 2, 1) := by decide +kernel
theorem d_L_law_845 : decode c_L_law 845 = .ok (.invokevirtual 80, 3) := by decide +kernel
theorem d_L_law_848 : decode c_L_law 848 = .ok (.iload 5, 2) := by decide +kernel
theorem d_L_law_850 : decode c_L_law 850 = .ok (.if_icmp .eq 5, 3) := by decide +kernel
theorem d_L_law_853 : decode c_L_law 853 = .ok (.iconst 0, 1) := by decide +kernel
theorem d_L_law_854 : decode c_L_law 854 = .ok (.ireturn, 1) := by decide +kernel
theorem d_L_law_855 : decode c_L_law 855 = .ok (.iload 5, 2) := by decide +kernel
theorem d_L_law_857 : decode c_L_law 857 = .ok (.ifCond .ne 15, 3) := by decide +kernel
theorem d_L_law_860 : decode c_L_law 860 = .ok (.aload_n 3, 1) := by decide +kernel
theorem d_L_law_861 : decode c_L_law 861 = .ok (.iconst 0, 1) := by decide +kernel
theorem d_L_law_862 : decode c_L_law 862 = .ok (.laload, 1) := by decide +kernel
theorem d_L_law_863 : decode c_L_law 863 = .ok (.iload 6, 2) := by decide +kernel
theorem d_L_law_865 : decode c_L_law 865 = .ok (.i2l, 1) := by decide +kernel
theorem d_L_law_866 : decode c_L_law 866 = .ok (.lcmp, 1) := by decide +kernel
theorem d_L_law_867 : decode c_L_law 867 = .ok (.ifCond .eq 5, 3) := by decide +kernel
theorem d_L_law_870 : decode c_L_law 870 = .ok (.iconst 0, 1) := by decide +kernel
theorem d_L_law_871 : decode c_L_law 871 = .ok (.ireturn, 1) := by decide +kernel
theorem d_L_law_872 : decode c_L_law 872 = .ok (.goto 177, 3) := by decide +kernel
theorem d_L_law_875 : decode c_L_law 875 = .ok (.aload_n 1, 1) := by decide +kernel
theorem d_L_law_876 : decode c_L_law 876 = .ok (.aload_n 0, 1) := by decide +kernel
theorem d_L_law_877 : decode c_L_law 877 = .ok (.iload 4, 2) := by decide +kernel
theorem d_L_law_879 : decode c_L_law 879 = .ok (.iconst 1, 1) := by decide +kernel
theorem d_L_law_880 : decode c_L_law 880 = .ok (.iadd, 1) := by decide +kernel
theorem d_L_law_881 : decode c_L_law 881 = .ok (.iaload, 1) := by decide +kernel
theorem d_L_law_882 : decode c_L_law 882 = .ok (.aload_n 0, 1) := by decide +kernel
theorem d_L_law_883 : decode c_L_law 883 = .ok (.iload 4, 2) := by decide +kernel
theorem d_L_law_885 : decode c_L_law 885 = .ok (.iconst 2, 1) := by decide +kernel
theorem d_L_law_886 : decode c_L_law 886 = .ok (.iadd, 1) := by decide +kernel
theorem d_L_law_887 : decode c_L_law 887 = .ok (.iaload, 1) := by decide +kernel
theorem d_L_law_888 : decode c_L_law 888 = .ok (.aload_n 0, 1) := by decide +kernel
theorem d_L_law_889 : decode c_L_law 889 = .ok (.iload 4, 2) := by decide +kernel
theorem d_L_law_891 : decode c_L_law 891 = .ok (.iconst 3, 1) := by decide +kernel
theorem d_L_law_892 : decode c_L_law 892 = .ok (.iadd, 1) := by decide +kernel
theorem d_L_law_893 : decode c_L_law 893 = .ok (.iaload, 1) := by decide +kernel
theorem d_L_law_894 : decode c_L_law 894 = .ok (.aload_n 0, 1) := by decide +kernel
theorem d_L_law_895 : decode c_L_law 895 = .ok (.iload 4, 2) := by decide +kernel
theorem d_L_law_897 : decode c_L_law 897 = .ok (.iconst 4, 1) := by decide +kernel
theorem d_L_law_898 : decode c_L_law 898 = .ok (.iadd, 1) := by decide +kernel
theorem d_L_law_899 : decode c_L_law 899 = .ok (.iaload, 1) := by decide +kernel
theorem d_L_law_900 : decode c_L_law 900 = .ok (.aload_n 0, 1) := by decide +kernel
theorem d_L_law_901 : decode c_L_law 901 = .ok (.iload 4, 2) := by decide +kernel
theorem d_L_law_903 : decode c_L_law 903 = .ok (.iconst 5, 1) := by decide +kernel
theorem d_L_law_904 : decode c_L_law 904 = .ok (.iadd, 1) := by decide +kernel
theorem d_L_law_905 : decode c_L_law 905 = .ok (.iaload, 1) := by decide +kernel
theorem d_L_law_906 : decode c_L_law 906 = .ok (.aload_n 0, 1) := by decide +kernel
theorem d_L_law_907 : decode c_L_law 907 = .ok (.iload 4, 2) := by decide +kernel
theorem d_L_law_909 : decode c_L_law 909 = .ok (.bipush 6, 2) := by decide +kernel
theorem d_L_law_911 : decode c_L_law 911 = .ok (.iadd, 1) := by decide +kernel
