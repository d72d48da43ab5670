theorem dL_law_770 : decode code 770 = .ok (.aload_n 2, 1) := by decide +kernel
theorem dL_law_771 : decode code 771 = .ok (.invokevirtual 72, 3) := by decide +kernel
theorem dL_law_774 : decode code 774 = .ok (.iload 5, 2) := by decide +kernel
theorem dL_law_776 : decode code 776 = .ok (.if_icmp .eq 5, 3) := by decide +kernel
theorem dL_law_779 : decode code 779 = .ok (.iconst 0, 1) := by decide +kernel
theorem dL_law_780 : decode code 780 = .ok (.ireturn, 1) := by decide +kernel
theorem dL_law_781 : decode code 781 = .ok (.goto 329, 3) := by decide +kernel
theorem dL_law_784 : decode code 784 = .ok (.aload_n 1, 1) := by decide +kernel
theorem dL_law_785 : decode code 785 = .ok (.aload_n 0, 1) := by decide +kernel
theorem dL_law_786 : decode code 786 = .ok (.iload 4, 2) := by decide +kernel
theorem dL_law_788 : decode code 788 = .ok (.iconst 1, 1) := by decide +kernel
theorem dL_law_789 : decode code 789 = .ok (.iadd, 1) := by decide +kernel
theorem dL_law_790 : decode code 790 = .ok (.iaload, 1) := by decide +kernel
theorem dL_law_791 : decode code 791 = .ok (.aload_n 3, 1) := by decide +kernel
theorem dL_law_792 : decode code 792 = .ok (.invokestatic 103, 3) := by decide +kernel
theorem dL_law_795 : decode code 795 = .ok (.istore 5, 2) := by decide +kernel
theorem dL_law_797 : decode code 797 = .ok (.aload_n 2, 1) := by decide +kernel
theorem dL_law_798 : decode code 798 = .ok (.aload_n 0, 1) := by decide +kernel
theorem dL_law_799 : decode code 799 = .ok (.iload 4, 2) := by decide +kernel
theorem dL_law_801 : decode code 801 = .ok (.iconst 1, 1) := by decide +kernel
theorem dL_law_802 : decode code 802 = .ok (.iadd, 1) := by decide +kernel
theorem dL_law_803 : decode code 803 = .ok (.iaload, 1) := by decide +kernel
theorem dL_law_804 : decode code 804 = .ok (.invokevirtual 106, 3) := by decide +kernel
theorem dL_law_807 : decode code 807 = .ok (.istore 6, 2) := by decide +kernel
theorem dL_law_809 : decode code 809 = .ok (.aload_n 2, 1) := by decide +kernel
theorem dL_law_810 : decode code 810 = .ok (.invokevirtual 72, 3) := by decide +kernel
theorem dL_law_813 : decode code 813 = .ok (.iload 5, 2) := by decide +kernel
theorem dL_law_815 : decode code 815 = .ok (.if_icmp .eq 5, 3) := by decide +kernel
theorem dL_law_818 : decode code 818 = .ok (.iconst 0, 1) := by decide +kernel
theorem dL_law_819 : decode code 819 = .ok (.ireturn, 1) := by decide +kernel
theorem dL_law_820 : decode code 820 = .ok (.iload 5, 2) := by decide +kernel
theorem dL_law_822 : decode code 822 = .ok (.ifCond .ne 15, 3) := by decide +kernel
theorem dL_law_825 : decode code 825 = .ok (.aload_n 3, 1) := by decide +kernel
theorem dL_law_826 : decode code 826 = .ok (.iconst 0, 1) := by decide +kernel
theorem dL_law_827 : decode code 827 = .ok (.laload, 1) := by decide +kernel
theorem dL_law_828 : decode code 828 = .ok (.iload 6, 2) := by decide +kernel
theorem dL_law_830 : decode code 830 = .ok (.i2l, 1) := by decide +kernel
theorem dL_law_831 : decode code 831 = .ok (.lcmp, 1) := by decide +kernel
theorem dL_law_832 : decode code 832 = .ok (.ifCond .eq 5, 3) := by decide +kernel
theorem dL_law_835 : decode code 835 = .ok (.iconst 0, 1) := by decide +kernel
theorem dL_law_836 : decode code 836 = .ok (.ireturn, 1) := by decide +kernel
theorem dL_law_837 : decode code 837 = .ok (.goto 273, 3) := by decide +kernel
theorem dL_law_840 : decode code 840 = .ok (.aload_n 1, 1) := by decide +kernel
theorem dL_law_841 : decode code 841 = .ok (.aload_n 0, 1) := by decide +kernel
theorem dL_law_842 : decode code 842 = .ok (.iload 4, 2) := by decide +kernel
theorem dL_law_844 : decode code 844 = .ok (.iconst 1, 1) := by decide +kernel
theorem dL_law_845 : decode code 845 = .ok (.iadd, 1) := by decide +kernel
theorem dL_law_846 : decode code 846 = .ok (.iaload, 1) := by decide +kernel
theorem dL_law_847 : decode code 847 = .ok (.aload_n 0, 1) := by decide +kernel
theorem dL_law_848 : decode code 848 = .ok (.iload 4, 2) := by decide +kernel
theorem dL_law_850 : decode code 850 = .ok (.iconst 2, 1) := by decide +kernel
theorem dL_law_851 : decode code 851 = .ok (.iadd, 1) := by decide +kernel
theorem dL_law_852 : decode code 852 = .ok (.iaload, 1) := by decide +kernel
theorem dL_law_853 : decode code 853 = .ok (.aload_n 3, 1) := by decide +kernel
theorem dL_law_854 : decode code 854 = .ok (.invokestatic 107, 3) := by decide +kernel
theorem dL_law_857 : decode code 857 = .ok (.istore 5, 2) := by decide +kernel
theorem dL_law_859 : decode code 859 = .ok (.aload_n 2, 1) := by decide +kernel
theorem dL_law_860 : decode code 860 = .ok (.aload_n 0, 1) := by decide +kernel
theorem dL_law_861 : decode code 861 = .ok (.iload 4, 2) := by decide +kernel
theorem dL_law_863 : decode code 863 = .ok (.iconst 1, 1) := by decide +kernel
theorem dL_law_864 : decode code 864 = .ok (.iadd, 1) := by decide +kernel
theorem dL_law_865 : decode code 865 = .ok (.iaload, 1) := by decide +kernel
theorem dL_law_866 : decode code 866 = .ok (.aload_n 0, 1) := by decide +kernel
theorem dL_law_867 : decode code 867 = .ok (.iload 4, 2) := by decide +kernel
theorem dL_law_869 : decode code 869 = .ok (.iconst 2, 1) := by decide +kernel
theorem dL_law_870 : decode code 870 = .ok (.iadd, 1) := by decide +kernel
theorem dL_law_871 : decode code 871 = .ok (.iaload, 1) := by decide +kernel
theorem dL_law_872 : decode code 872 = .ok (.invokevirtual 109, 3) := by decide +kernel
theorem dL_law_875 : decode code 875 = .ok (.lstore 6, 2) := by decide +kernel
theorem dL_law_877 : decode code 877 = .ok (.aload_n 2, 1) := by decide +kernel
theorem dL_law_878 : decode code 878 = .ok (.invokevirtual 72, 3) := by decide +kernel
theorem dL_law_881 : decode code 881 = .ok (.iload 5, 2) := by decide +kernel
theorem dL_law_883 : decode code 883 = .ok (.if_icmp .eq 5, 3) := by decide +kernel
theorem dL_law_886 : decode code 886 = .ok (.iconst 0, 1) := by decide +kernel
theorem dL_law_887 : decode code 887 = .ok (.ireturn, 1) := by decide +kernel
theorem dL_law_888 : decode code 888 = .ok (.iload 5, 2) := by decide +kernel
theorem dL_law_890 : decode code 890 = .ok (.ifCond .ne 14, 3) := by decide +kernel
theorem dL_law_893 : decode code 893 = .ok (.aload_n 3, 1) := by decide +kernel
theorem dL_law_894 : decode code 894 = .ok (.iconst 0, 1) := by decide +kernel
theorem dL_law_895 : decode code 895 = .ok (.laload, 1) := by decide +kernel
theorem dL_law_896 : decode code 896 = .ok (.lload 6, 2) := by decide +kernel
theorem dL_law_898 : decode code 898 = .ok (.lcmp, 1) := by decide +kernel
theorem dL_law_899 : decode code 899 = .ok (.ifCond .eq 5, 3) := by decide +kernel
theorem dL_law_902 : decode code 902 = .ok (.iconst 0, 1) := by decide +kernel
theorem dL_law_903 : decode code 903 = .ok (.ireturn, 1) := by decide +kernel
theorem dL_law_904 : decode code 904 = .ok (.goto 206, 3) := by decide +kernel
theorem dL_law_907 : decode code 907 = .ok (.aload_n 1, 1) := by decide +kernel
theorem dL_law_908 : decode code 908 = .ok (.aload_n 0, 1) := by decide +kernel
theorem dL_law_909 : decode code 909 = .ok (.iload 4, 2) := by decide +kernel
theorem dL_law_911 : decode code 911 = .ok (.iconst 1, 1) := by decide +kernel
theorem dL_law_912 : decode code 912 = .ok (.iadd, 1) := by decide +kernel
theorem dL_law_913 : decode code 913 = .ok (.iaload, 1) := by decide +kernel
theorem dL_law_914 : decode code 914 = .ok (.aload_n 3, 1) := by decide +kernel
theorem dL_law_915 : decode code 915 = .ok (.invokestatic 110, 3) := by decide +kernel
theorem dL_law_918 : decode code 918 = .ok (.istore 5, 2) := by decide +kernel
theorem dL_law_920 : decode code 920 = .ok (.aload_n 2, 1) := by decide +kernel
theorem dL_law_921 : decode code 921 = .ok (.aload_n 0, 1) := by decide +kernel
theorem dL_law_922 : decode code 922 = .ok (.iload 4, 2) := by decide +kernel
theorem dL_law_924 : decode code 924 = .ok (.iconst 1, 1) := by decide +kernel
theorem dL_law_925 : decode code 925 = .ok (.iadd, 1) := by decide +kernel
theorem dL_law_926 : decode code 926 = .ok (.iaload, 1) := by decide +kernel
theorem dL_law_927 : decode code 927 = .ok (.invokevirtual 112, 3) := by decide +kernel
theorem dL_law_930 : decode code 930 = .ok (.lstore 6, 2) := by decide +kernel
theorem dL_law_932 : decode code 932 = .ok (.aload_n 2, 1) := by decide +kernel
theorem dL_law_933 : decode code 933 = .ok (.invokevirtual 72, 3) := by decide +kernel
theorem dL_law_936 : decode code 936 = .ok (.iload 5, 2) := by decide +kernel
theorem dL_law_938 : decode code 938 = .ok (.if_icmp .eq 5, 3) := by decide +kernel
theorem dL_law_941 : decode code 941 = .ok (.iconst 0, 1) := by decide +kernel
theorem dL_law_942 : decode code 942 = .ok (.ireturn, 1) := by decide +kernel
theorem dL_law_943 : decode code 943 = .ok (.iload 5, 2) := by decide +kernel
theorem dL_law_945 : decode code 945 = .ok (.ifCond .ne 14, 3) := by decide +kernel
theorem dL_law_948 : decode code 948 = .ok (.aload_n 3, 1) := by decide +kernel
theorem dL_law_949 : decode code 949 = .ok (.iconst 0, 1) := by decide +kernel
theorem dL_law_950 : decode code 950 = .ok (.laload, 1) := by decide +kernel
theorem dL_law_951 : decode code 951 = .ok (.lload 6, 2) := by decide +kernel
theorem dL_law_953 : decode code 953 = .ok (.lcmp, 1) := by decide +kernel
theorem dL_law_954 : decode code 954 = .ok (.ifCond .eq 5, 3) := by decide +kernel
theorem dL_law_957 : decode code 957 = .ok (.iconst 0, 1) := by decide +kernel
theorem dL_law_958 : decode code 958 = .ok (.ireturn, 1) := by decide +kernel
theorem dL_law_959 : decode code 959 = .ok (.goto 151, 3) := by decide +kernel
