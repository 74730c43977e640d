theorem dL_acts_757 : decode cL_acts 757 = .ok (.iload 9, 2) := by decide +kernel
theorem dL_acts_759 : decode cL_acts 759 = .ok (.aload_n 3, 1) := by decide +kernel
theorem dL_acts_760 : decode cL_acts 760 = .ok (.aload_n 2, 1) := by decide +kernel
theorem dL_acts_761 : decode cL_acts 761 = .ok (.iload 7, 2) := by decide +kernel
theorem dL_acts_763 : decode cL_acts 763 = .ok (.invokestatic 116, 3) := by decide +kernel
theorem dL_acts_766 : decode cL_acts 766 = .ok (.aload_n 2, 1) := by decide +kernel
theorem dL_acts_767 : decode cL_acts 767 = .ok (.iload 8, 2) := by decide +kernel
theorem dL_acts_769 : decode cL_acts 769 = .ok (.invokestatic 116, 3) := by decide +kernel
theorem dL_acts_772 : decode cL_acts 772 = .ok (.invokestatic 39, 3) := by decide +kernel
theorem dL_acts_775 : decode cL_acts 775 = .ok (.aload_n 3, 1) := by decide +kernel
theorem dL_acts_776 : decode cL_acts 776 = .ok (.aload_n 2, 1) := by decide +kernel
theorem dL_acts_777 : decode cL_acts 777 = .ok (.iload 8, 2) := by decide +kernel
theorem dL_acts_779 : decode cL_acts 779 = .ok (.invokestatic 116, 3) := by decide +kernel
theorem dL_acts_782 : decode cL_acts 782 = .ok (.aload_n 2, 1) := by decide +kernel
theorem dL_acts_783 : decode cL_acts 783 = .ok (.iload 7, 2) := by decide +kernel
theorem dL_acts_785 : decode cL_acts 785 = .ok (.invokestatic 116, 3) := by decide +kernel
theorem dL_acts_788 : decode cL_acts 788 = .ok (.invokestatic 39, 3) := by decide +kernel
theorem dL_acts_791 : decode cL_acts 791 = .ok (.invokestatic 31, 3) := by decide +kernel
theorem dL_acts_794 : decode cL_acts 794 = .ok (.ldc2_w 23, 3) := by decide +kernel
theorem dL_acts_797 : decode cL_acts 797 = .ok (.invokestatic 135, 3) := by decide +kernel
theorem dL_acts_800 : decode cL_acts 800 = .ok (.istore 10, 2) := by decide +kernel
theorem dL_acts_802 : decode cL_acts 802 = .ok (.aload_n 0, 1) := by decide +kernel
theorem dL_acts_803 : decode cL_acts 803 = .ok (.iload 7, 2) := by decide +kernel
theorem dL_acts_805 : decode cL_acts 805 = .ok (.iload 8, 2) := by decide +kernel
theorem dL_acts_807 : decode cL_acts 807 = .ok (.iload 9, 2) := by decide +kernel
theorem dL_acts_809 : decode cL_acts 809 = .ok (.invokestatic 150, 3) := by decide +kernel
theorem dL_acts_812 : decode cL_acts 812 = .ok (.iload 10, 2) := by decide +kernel
theorem dL_acts_814 : decode cL_acts 814 = .ok (.ifCond .eq 15, 3) := by decide +kernel
theorem dL_acts_817 : decode cL_acts 817 = .ok (.aload_n 2, 1) := by decide +kernel
theorem dL_acts_818 : decode cL_acts 818 = .ok (.iload 9, 2) := by decide +kernel
theorem dL_acts_820 : decode cL_acts 820 = .ok (.invokestatic 116, 3) := by decide +kernel
theorem dL_acts_823 : decode cL_acts 823 = .ok (.invokestatic 43, 3) := by decide +kernel
theorem dL_acts_826 : decode cL_acts 826 = .ok (.goto 6, 3) := by decide +kernel
theorem dL_acts_829 : decode cL_acts 829 = .ok (.ldc2_w 81, 3) := by decide +kernel
theorem dL_acts_832 : decode cL_acts 832 = .ok (.lcmp, 1) := by decide +kernel
theorem dL_acts_833 : decode cL_acts 833 = .ok (.ifCond .ne 7, 3) := by decide +kernel
theorem dL_acts_836 : decode cL_acts 836 = .ok (.iconst 1, 1) := by decide +kernel
theorem dL_acts_837 : decode cL_acts 837 = .ok (.goto 4, 3) := by decide +kernel
theorem dL_acts_840 : decode cL_acts 840 = .ok (.iconst 0, 1) := by decide +kernel
theorem dL_acts_841 : decode cL_acts 841 = .ok (.ireturn, 1) := by decide +kernel
theorem dL_acts_842 : decode cL_acts 842 = .ok (.iload 6, 2) := by decide +kernel
theorem dL_acts_844 : decode cL_acts 844 = .ok (.bipush 18, 2) := by decide +kernel
theorem dL_acts_846 : decode cL_acts 846 = .ok (.if_icmp .ne 126, 3) := by decide +kernel
theorem dL_acts_849 : decode cL_acts 849 = .ok (.iload 5, 2) := by decide +kernel
theorem dL_acts_851 : decode cL_acts 851 = .ok (.sipush 512, 3) := by decide +kernel
theorem dL_acts_854 : decode cL_acts 854 = .ok (.idiv, 1) := by decide +kernel
theorem dL_acts_855 : decode cL_acts 855 = .ok (.bipush 8, 2) := by decide +kernel
theorem dL_acts_857 : decode cL_acts 857 = .ok (.irem, 1) := by decide +kernel
theorem dL_acts_858 : decode cL_acts 858 = .ok (.istore 10, 2) := by decide +kernel
theorem dL_acts_860 : decode cL_acts 860 = .ok (.aload_n 3, 1) := by decide +kernel
theorem dL_acts_861 : decode cL_acts 861 = .ok (.aload_n 3, 1) := by decide +kernel
theorem dL_acts_862 : decode cL_acts 862 = .ok (.aload_n 2, 1) := by decide +kernel
theorem dL_acts_863 : decode cL_acts 863 = .ok (.iload 7, 2) := by decide +kernel
theorem dL_acts_865 : decode cL_acts 865 = .ok (.invokestatic 116, 3) := by decide +kernel
theorem dL_acts_868 : decode cL_acts 868 = .ok (.aload_n 2, 1) := by decide +kernel
theorem dL_acts_869 : decode cL_acts 869 = .ok (.iload 8, 2) := by decide +kernel
theorem dL_acts_871 : decode cL_acts 871 = .ok (.invokestatic 116, 3) := by decide +kernel
theorem dL_acts_874 : decode cL_acts 874 = .ok (.invokestatic 39, 3) := by decide +kernel
theorem dL_acts_877 : decode cL_acts 877 = .ok (.aload_n 2, 1) := by decide +kernel
theorem dL_acts_878 : decode cL_acts 878 = .ok (.iload 10, 2) := by decide +kernel
theorem dL_acts_880 : decode cL_acts 880 = .ok (.invokestatic 116, 3) := by decide +kernel
theorem dL_acts_883 : decode cL_acts 883 = .ok (.invokestatic 39, 3) := by decide +kernel
theorem dL_acts_886 : decode cL_acts 886 = .ok (.astore 11, 2) := by decide +kernel
theorem dL_acts_888 : decode cL_acts 888 = .ok (.aload_n 2, 1) := by decide +kernel
theorem dL_acts_889 : decode cL_acts 889 = .ok (.iload 9, 2) := by decide +kernel
theorem dL_acts_891 : decode cL_acts 891 = .ok (.aload 11, 2) := by decide +kernel
theorem dL_acts_893 : decode cL_acts 893 = .ok (.aload_n 3, 1) := by decide +kernel
theorem dL_acts_894 : decode cL_acts 894 = .ok (.aload_n 2, 1) := by decide +kernel
theorem dL_acts_895 : decode cL_acts 895 = .ok (.iload 7, 2) := by decide +kernel
theorem dL_acts_897 : decode cL_acts 897 = .ok (.invokestatic 116, 3) := by decide +kernel
theorem dL_acts_900 : decode cL_acts 900 = .ok (.aload_n 3, 1) := by decide +kernel
theorem dL_acts_901 : decode cL_acts 901 = .ok (.aload_n 2, 1) := by decide +kernel
theorem dL_acts_902 : decode cL_acts 902 = .ok (.iload 8, 2) := by decide +kernel
theorem dL_acts_904 : decode cL_acts 904 = .ok (.invokestatic 116, 3) := by decide +kernel
theorem dL_acts_907 : decode cL_acts 907 = .ok (.aload_n 2, 1) := by decide +kernel
theorem dL_acts_908 : decode cL_acts 908 = .ok (.iload 10, 2) := by decide +kernel
theorem dL_acts_910 : decode cL_acts 910 = .ok (.invokestatic 116, 3) := by decide +kernel
theorem dL_acts_913 : decode cL_acts 913 = .ok (.invokestatic 39, 3) := by decide +kernel
theorem dL_acts_916 : decode cL_acts 916 = .ok (.invokestatic 39, 3) := by decide +kernel
theorem dL_acts_919 : decode cL_acts 919 = .ok (.invokestatic 31, 3) := by decide +kernel
theorem dL_acts_922 : decode cL_acts 922 = .ok (.ldc2_w 25, 3) := by decide +kernel
theorem dL_acts_925 : decode cL_acts 925 = .ok (.invokestatic 135, 3) := by decide +kernel
theorem dL_acts_928 : decode cL_acts 928 = .ok (.istore 12, 2) := by decide +kernel
theorem dL_acts_930 : decode cL_acts 930 = .ok (.aload_n 0, 1) := by decide +kernel
theorem dL_acts_931 : decode cL_acts 931 = .ok (.iload 7, 2) := by decide +kernel
theorem dL_acts_933 : decode cL_acts 933 = .ok (.iload 8, 2) := by decide +kernel
theorem dL_acts_935 : decode cL_acts 935 = .ok (.iload 10, 2) := by decide +kernel
theorem dL_acts_937 : decode cL_acts 937 = .ok (.iload 9, 2) := by decide +kernel
theorem dL_acts_939 : decode cL_acts 939 = .ok (.invokestatic 153, 3) := by decide +kernel
theorem dL_acts_942 : decode cL_acts 942 = .ok (.iload 12, 2) := by decide +kernel
theorem dL_acts_944 : decode cL_acts 944 = .ok (.ifCond .eq 15, 3) := by decide +kernel
theorem dL_acts_947 : decode cL_acts 947 = .ok (.aload_n 2, 1) := by decide +kernel
theorem dL_acts_948 : decode cL_acts 948 = .ok (.iload 9, 2) := by decide +kernel
theorem dL_acts_950 : decode cL_acts 950 = .ok (.invokestatic 116, 3) := by decide +kernel
theorem dL_acts_953 : decode cL_acts 953 = .ok (.invokestatic 43, 3) := by decide +kernel
theorem dL_acts_956 : decode cL_acts 956 = .ok (.goto 6, 3) := by decide +kernel
theorem dL_acts_959 : decode cL_acts 959 = .ok (.ldc2_w 81, 3) := by decide +kernel
theorem dL_acts_962 : decode cL_acts 962 = .ok (.lcmp, 1) := by decide +kernel
theorem dL_acts_963 : decode cL_acts 963 = .ok (.ifCond .ne 7, 3) := by decide +kernel
theorem dL_acts_966 : decode cL_acts 966 = .ok (.iconst 1, 1) := by decide +kernel
theorem dL_acts_967 : decode cL_acts 967 = .ok (.goto 4, 3) := by decide +kernel
theorem dL_acts_970 : decode cL_acts 970 = .ok (.iconst 0, 1) := by decide +kernel
theorem dL_acts_971 : decode cL_acts 971 = .ok (.ireturn, 1) := by decide +kernel
theorem dL_acts_972 : decode cL_acts 972 = .ok (.iload 5, 2) := by decide +kernel
theorem dL_acts_974 : decode cL_acts 974 = .ok (.sipush 512, 3) := by decide +kernel
theorem dL_acts_977 : decode cL_acts 977 = .ok (.idiv, 1) := by decide +kernel
theorem dL_acts_978 : decode cL_acts 978 = .ok (.bipush 8, 2) := by decide +kernel
theorem dL_acts_980 : decode cL_acts 980 = .ok (.irem, 1) := by decide +kernel
theorem dL_acts_981 : decode cL_acts 981 = .ok (.istore 10, 2) := by decide +kernel
theorem dL_acts_983 : decode cL_acts 983 = .ok (.iload 10, 2) := by decide +kernel
theorem dL_acts_985 : decode cL_acts 985 = .ok (.iload 9, 2) := by decide +kernel
theorem dL_acts_987 : decode cL_acts 987 = .ok (.if_icmp .ne 28, 3) := by decide +kernel
theorem dL_acts_990 : decode cL_acts 990 = .ok (.aload_n 0, 1) := by decide +kernel
theorem dL_acts_991 : decode cL_acts 991 = .ok (.iload 7, 2) := by decide +kernel
theorem dL_acts_993 : decode cL_acts 993 = .ok (.iload 8, 2) := by decide +kernel
theorem dL_acts_995 : decode cL_acts 995 = .ok (.iload 10, 2) := by decide +kernel
theorem dL_acts_997 : decode cL_acts 997 = .ok (.iload 9, 2) := by decide +kernel
theorem dL_acts_999 : decode cL_acts 999 = .ok (.invokestatic 157, 3) := by decide +kernel
theorem dL_acts_1002 : decode cL_acts 1002 = .ok (.ldc2_w 65, 3) := by decide +kernel
theorem dL_acts_1005 : decode cL_acts 1005 = .ok (.lcmp, 1) := by decide +kernel
