theorem dL_law_1000 : decode cL_law 1000 = .ok (.invokevirtual 207, 3) := by decide +kernel
theorem dL_law_1003 : decode cL_law 1003 = .ok (.istore 6, 2) := by decide +kernel
theorem dL_law_1005 : decode cL_law 1005 = .ok (.goto 686, 3) := by decide +kernel
theorem dL_law_1008 : decode cL_law 1008 = .ok (.aload_n 1, 1) := by decide +kernel
theorem dL_law_1009 : decode cL_law 1009 = .ok (.aload_n 0, 1) := by decide +kernel
theorem dL_law_1010 : decode cL_law 1010 = .ok (.iload 4, 2) := by decide +kernel
theorem dL_law_1012 : decode cL_law 1012 = .ok (.iconst 1, 1) := by decide +kernel
theorem dL_law_1013 : decode cL_law 1013 = .ok (.iadd, 1) := by decide +kernel
theorem dL_law_1014 : decode cL_law 1014 = .ok (.iaload, 1) := by decide +kernel
theorem dL_law_1015 : decode cL_law 1015 = .ok (.aload_n 3, 1) := by decide +kernel
theorem dL_law_1016 : decode cL_law 1016 = .ok (.invokestatic 208, 3) := by decide +kernel
theorem dL_law_1019 : decode cL_law 1019 = .ok (.istore 5, 2) := by decide +kernel
theorem dL_law_1021 : decode cL_law 1021 = .ok (.aload_n 2, 1) := by decide +kernel
theorem dL_law_1022 : decode cL_law 1022 = .ok (.aload_n 0, 1) := by decide +kernel
theorem dL_law_1023 : decode cL_law 1023 = .ok (.iload 4, 2) := by decide +kernel
theorem dL_law_1025 : decode cL_law 1025 = .ok (.iconst 1, 1) := by decide +kernel
theorem dL_law_1026 : decode cL_law 1026 = .ok (.iadd, 1) := by decide +kernel
theorem dL_law_1027 : decode cL_law 1027 = .ok (.iaload, 1) := by decide +kernel
theorem dL_law_1028 : decode cL_law 1028 = .ok (.invokevirtual 210, 3) := by decide +kernel
theorem dL_law_1031 : decode cL_law 1031 = .ok (.istore 6, 2) := by decide +kernel
theorem dL_law_1033 : decode cL_law 1033 = .ok (.goto 658, 3) := by decide +kernel
theorem dL_law_1036 : decode cL_law 1036 = .ok (.aload_n 1, 1) := by decide +kernel
theorem dL_law_1037 : decode cL_law 1037 = .ok (.aload_n 0, 1) := by decide +kernel
theorem dL_law_1038 : decode cL_law 1038 = .ok (.iload 4, 2) := by decide +kernel
theorem dL_law_1040 : decode cL_law 1040 = .ok (.iconst 1, 1) := by decide +kernel
theorem dL_law_1041 : decode cL_law 1041 = .ok (.iadd, 1) := by decide +kernel
theorem dL_law_1042 : decode cL_law 1042 = .ok (.iaload, 1) := by decide +kernel
theorem dL_law_1043 : decode cL_law 1043 = .ok (.aload_n 3, 1) := by decide +kernel
theorem dL_law_1044 : decode cL_law 1044 = .ok (.invokestatic 211, 3) := by decide +kernel
theorem dL_law_1047 : decode cL_law 1047 = .ok (.istore 5, 2) := by decide +kernel
theorem dL_law_1049 : decode cL_law 1049 = .ok (.aload_n 2, 1) := by decide +kernel
theorem dL_law_1050 : decode cL_law 1050 = .ok (.aload_n 0, 1) := by decide +kernel
theorem dL_law_1051 : decode cL_law 1051 = .ok (.iload 4, 2) := by decide +kernel
theorem dL_law_1053 : decode cL_law 1053 = .ok (.iconst 1, 1) := by decide +kernel
theorem dL_law_1054 : decode cL_law 1054 = .ok (.iadd, 1) := by decide +kernel
theorem dL_law_1055 : decode cL_law 1055 = .ok (.iaload, 1) := by decide +kernel
theorem dL_law_1056 : decode cL_law 1056 = .ok (.invokevirtual 213, 3) := by decide +kernel
theorem dL_law_1059 : decode cL_law 1059 = .ok (.istore 6, 2) := by decide +kernel
theorem dL_law_1061 : decode cL_law 1061 = .ok (.goto 630, 3) := by decide +kernel
theorem dL_law_1064 : decode cL_law 1064 = .ok (.aload_n 1, 1) := by decide +kernel
theorem dL_law_1065 : decode cL_law 1065 = .ok (.invokevirtual 214, 3) := by decide +kernel
theorem dL_law_1068 : decode cL_law 1068 = .ok (.pop, 1) := by decide +kernel
theorem dL_law_1069 : decode cL_law 1069 = .ok (.aload_n 2, 1) := by decide +kernel
theorem dL_law_1070 : decode cL_law 1070 = .ok (.invokevirtual 217, 3) := by decide +kernel
theorem dL_law_1073 : decode cL_law 1073 = .ok (.pop, 1) := by decide +kernel
theorem dL_law_1074 : decode cL_law 1074 = .ok (.goto 617, 3) := by decide +kernel
theorem dL_law_1077 : decode cL_law 1077 = .ok (.aload_n 1, 1) := by decide +kernel
theorem dL_law_1078 : decode cL_law 1078 = .ok (.aload_n 0, 1) := by decide +kernel
theorem dL_law_1079 : decode cL_law 1079 = .ok (.iload 4, 2) := by decide +kernel
theorem dL_law_1081 : decode cL_law 1081 = .ok (.iconst 1, 1) := by decide +kernel
theorem dL_law_1082 : decode cL_law 1082 = .ok (.iadd, 1) := by decide +kernel
theorem dL_law_1083 : decode cL_law 1083 = .ok (.iaload, 1) := by decide +kernel
theorem dL_law_1084 : decode cL_law 1084 = .ok (.aload_n 3, 1) := by decide +kernel
theorem dL_law_1085 : decode cL_law 1085 = .ok (.invokestatic 218, 3) := by decide +kernel
theorem dL_law_1088 : decode cL_law 1088 = .ok (.istore 5, 2) := by decide +kernel
theorem dL_law_1090 : decode cL_law 1090 = .ok (.aload_n 2, 1) := by decide +kernel
theorem dL_law_1091 : decode cL_law 1091 = .ok (.aload_n 0, 1) := by decide +kernel
theorem dL_law_1092 : decode cL_law 1092 = .ok (.iload 4, 2) := by decide +kernel
theorem dL_law_1094 : decode cL_law 1094 = .ok (.iconst 1, 1) := by decide +kernel
theorem dL_law_1095 : decode cL_law 1095 = .ok (.iadd, 1) := by decide +kernel
theorem dL_law_1096 : decode cL_law 1096 = .ok (.iaload, 1) := by decide +kernel
theorem dL_law_1097 : decode cL_law 1097 = .ok (.invokevirtual 220, 3) := by decide +kernel
theorem dL_law_1100 : decode cL_law 1100 = .ok (.istore 6, 2) := by decide +kernel
theorem dL_law_1102 : decode cL_law 1102 = .ok (.goto 589, 3) := by decide +kernel
theorem dL_law_1105 : decode cL_law 1105 = .ok (.aload_n 1, 1) := by decide +kernel
theorem dL_law_1106 : decode cL_law 1106 = .ok (.aload_n 0, 1) := by decide +kernel
theorem dL_law_1107 : decode cL_law 1107 = .ok (.iload 4, 2) := by decide +kernel
theorem dL_law_1109 : decode cL_law 1109 = .ok (.iconst 1, 1) := by decide +kernel
theorem dL_law_1110 : decode cL_law 1110 = .ok (.iadd, 1) := by decide +kernel
theorem dL_law_1111 : decode cL_law 1111 = .ok (.iaload, 1) := by decide +kernel
theorem dL_law_1112 : decode cL_law 1112 = .ok (.aload_n 0, 1) := by decide +kernel
theorem dL_law_1113 : decode cL_law 1113 = .ok (.iload 4, 2) := by decide +kernel
theorem dL_law_1115 : decode cL_law 1115 = .ok (.iconst 2, 1) := by decide +kernel
theorem dL_law_1116 : decode cL_law 1116 = .ok (.iadd, 1) := by decide +kernel
theorem dL_law_1117 : decode cL_law 1117 = .ok (.iaload, 1) := by decide +kernel
theorem dL_law_1118 : decode cL_law 1118 = .ok (.aload_n 3, 1) := by decide +kernel
theorem dL_law_1119 : decode cL_law 1119 = .ok (.invokestatic 221, 3) := by decide +kernel
theorem dL_law_1122 : decode cL_law 1122 = .ok (.istore 5, 2) := by decide +kernel
theorem dL_law_1124 : decode cL_law 1124 = .ok (.aload_n 2, 1) := by decide +kernel
theorem dL_law_1125 : decode cL_law 1125 = .ok (.aload_n 0, 1) := by decide +kernel
theorem dL_law_1126 : decode cL_law 1126 = .ok (.iload 4, 2) := by decide +kernel
theorem dL_law_1128 : decode cL_law 1128 = .ok (.iconst 1, 1) := by decide +kernel
theorem dL_law_1129 : decode cL_law 1129 = .ok (.iadd, 1) := by decide +kernel
theorem dL_law_1130 : decode cL_law 1130 = .ok (.iaload, 1) := by decide +kernel
theorem dL_law_1131 : decode cL_law 1131 = .ok (.aload_n 0, 1) := by decide +kernel
theorem dL_law_1132 : decode cL_law 1132 = .ok (.iload 4, 2) := by decide +kernel
theorem dL_law_1134 : decode cL_law 1134 = .ok (.iconst 2, 1) := by decide +kernel
theorem dL_law_1135 : decode cL_law 1135 = .ok (.iadd, 1) := by decide +kernel
theorem dL_law_1136 : decode cL_law 1136 = .ok (.iaload, 1) := by decide +kernel
theorem dL_law_1137 : decode cL_law 1137 = .ok (.invokevirtual 223, 3) := by decide +kernel
theorem dL_law_1140 : decode cL_law 1140 = .ok (.istore 6, 2) := by decide +kernel
theorem dL_law_1142 : decode cL_law 1142 = .ok (.goto 549, 3) := by decide +kernel
theorem dL_law_734 : decode cL_law 734 = .ok (.aload_n 1, 1) := by decide +kernel
theorem dL_law_735 : decode cL_law 735 = .ok (.aload_n 0, 1) := by decide +kernel
theorem dL_law_736 : decode cL_law 736 = .ok (.iload 4, 2) := by decide +kernel
theorem dL_law_738 : decode cL_law 738 = .ok (.iconst 1, 1) := by decide +kernel
theorem dL_law_739 : decode cL_law 739 = .ok (.iadd, 1) := by decide +kernel
theorem dL_law_740 : decode cL_law 740 = .ok (.iaload, 1) := by decide +kernel
theorem dL_law_741 : decode cL_law 741 = .ok (.aload_n 0, 1) := by decide +kernel
theorem dL_law_742 : decode cL_law 742 = .ok (.iload 4, 2) := by decide +kernel
theorem dL_law_744 : decode cL_law 744 = .ok (.iconst 2, 1) := by decide +kernel
theorem dL_law_745 : decode cL_law 745 = .ok (.iadd, 1) := by decide +kernel
theorem dL_law_746 : decode cL_law 746 = .ok (.iaload, 1) := by decide +kernel
theorem dL_law_747 : decode cL_law 747 = .ok (.aload_n 3, 1) := by decide +kernel
theorem dL_law_748 : decode cL_law 748 = .ok (.invokestatic 175, 3) := by decide +kernel
theorem dL_law_751 : decode cL_law 751 = .ok (.istore 5, 2) := by decide +kernel
theorem dL_law_753 : decode cL_law 753 = .ok (.aload_n 2, 1) := by decide +kernel
theorem dL_law_754 : decode cL_law 754 = .ok (.aload_n 0, 1) := by decide +kernel
theorem dL_law_755 : decode cL_law 755 = .ok (.iload 4, 2) := by decide +kernel
theorem dL_law_757 : decode cL_law 757 = .ok (.iconst 1, 1) := by decide +kernel
theorem dL_law_758 : decode cL_law 758 = .ok (.iadd, 1) := by decide +kernel
theorem dL_law_759 : decode cL_law 759 = .ok (.iaload, 1) := by decide +kernel
theorem dL_law_760 : decode cL_law 760 = .ok (.aload_n 0, 1) := by decide +kernel
theorem dL_law_761 : decode cL_law 761 = .ok (.iload 4, 2) := by decide +kernel
theorem dL_law_763 : decode cL_law 763 = .ok (.iconst 2, 1) := by decide +kernel
theorem dL_law_764 : decode cL_law 764 = .ok (.iadd, 1) := by decide +kernel
theorem dL_law_765 : decode cL_law 765 = .ok (.iaload, 1) := by decide +kernel
theorem dL_law_766 : decode cL_law 766 = .ok (.invokevirtual 177, 3) := by decide +kernel
theorem dL_law_769 : decode cL_law 769 = .ok (.istore 6, 2) := by decide +kernel
theorem dL_law_771 : decode cL_law 771 = .ok (.goto 920, 3) := by decide +kernel
theorem dL_law_774 : decode cL_law 774 = .ok (.aload_n 1, 1) := by decide +kernel
theorem dL_law_775 : decode cL_law 775 = .ok (.aload_n 0, 1) := by decide +kernel
theorem dL_law_776 : decode cL_law 776 = .ok (.iload 4, 2) := by decide +kernel
theorem dL_law_778 : decode cL_law 778 = .ok (.iconst 1, 1) := by decide +kernel
theorem dL_law_779 : decode cL_law 779 = .ok (.iadd, 1) := by decide +kernel
theorem dL_law_780 : decode cL_law 780 = .ok (.iaload, 1) := by decide +kernel
theorem dL_law_781 : decode cL_law 781 = .ok (.aload_n 3, 1) := by decide +kernel
theorem dL_law_782 : decode cL_law 782 = .ok (.invokestatic 178, 3) := by decide +kernel
theorem dL_law_785 : decode cL_law 785 = .ok (.istore 5, 2) := by decide +kernel
theorem dL_law_787 : decode cL_law 787 = .ok (.aload_n 2, 1) := by decide +kernel
theorem dL_law_788 : decode cL_law 788 = .ok (.aload_n 0, 1) := by decide +kernel
theorem dL_law_789 : decode cL_law 789 = .ok (.iload 4, 2) := by decide +kernel
theorem dL_law_791 : decode cL_law 791 = .ok (.iconst 1, 1) := by decide +kernel
theorem dL_law_792 : decode cL_law 792 = .ok (.iadd, 1) := by decide +kernel
theorem dL_law_793 : decode cL_law 793 = .ok (.iaload, 1) := by decide +kernel
theorem dL_law_794 : decode cL_law 794 = .ok (.invokevirtual 180, 3) := by decide +kernel
theorem dL_law_797 : decode cL_law 797 = .ok (.istore 6, 2) := by decide +kernel
theorem dL_law_799 : decode cL_law 799 = .ok (.goto 892, 3) := by decide +kernel
theorem dL_law_802 : decode cL_law 802 = .ok (.aload_n 1, 1) := by decide +kernel
theorem dL_law_803 : decode cL_law 803 = .ok (.aload_n 0, 1) := by decide +kernel
theorem dL_law_804 : decode cL_law 804 = .ok (.iload 4, 2) := by decide +kernel
theorem dL_law_806 : decode cL_law 806 = .ok (.iconst 1, 1) := by decide +kernel
theorem dL_law_807 : decode cL_law 807 = .ok (.iadd, 1) := by decide +kernel
theorem dL_law_808 : decode cL_law 808 = .ok (.iaload, 1) := by decide +kernel
theorem dL_law_809 : decode cL_law 809 = .ok (.aload_n 0, 1) := by decide +kernel
theorem dL_law_810 : decode cL_law 810 = .ok (.iload 4, 2) := by decide +kernel
theorem dL_law_812 : decode cL_law 812 = .ok (.iconst 2, 1) := by decide +kernel
theorem dL_law_813 : decode cL_law 813 = .ok (.iadd, 1) := by decide +kernel
theorem dL_law_814 : decode cL_law 814 = .ok (.iaload, 1) := by decide +kernel
theorem dL_law_815 : decode cL_law 815 = .ok (.aload_n 3, 1) := by decide +kernel
theorem dL_law_816 : decode cL_law 816 = .ok (.invokestatic 181, 3) := by decide +kernel
theorem dL_law_819 : decode cL_law 819 = .ok (.istore 5, 2) := by decide +kernel
theorem dL_law_821 : decode cL_law 821 = .ok (.aload_n 2, 1) := by decide +kernel
theorem dL_law_822 : decode cL_law 822 = .ok (.aload_n 0, 1) := by decide +kernel
theorem dL_law_823 : decode cL_law 823 = .ok (.iload 4, 2) := by decide +kernel
theorem dL_law_825 : decode cL_law 825 = .ok (.iconst 1, 1) := by decide +kernel
theorem dL_law_826 : decode cL_law 826 = .ok (.iadd, 1) := by decide +kernel
theorem dL_law_827 : decode cL_law 827 = .ok (.iaload, 1) := by decide +kernel
theorem dL_law_828 : decode cL_law 828 = .ok (.aload_n 0, 1) := by decide +kernel
theorem dL_law_829 : decode cL_law 829 = .ok (.iload 4, 2) := by decide +kernel
theorem dL_law_831 : decode cL_law 831 = .ok (.iconst 2, 1) := by decide +kernel
theorem dL_law_832 : decode cL_law 832 = .ok (.iadd, 1) := by decide +kernel
theorem dL_law_833 : decode cL_law 833 = .ok (.iaload, 1) := by decide +kernel
theorem dL_law_834 : decode cL_law 834 = .ok (.invokevirtual 183, 3) := by decide +kernel
theorem dL_law_837 : decode cL_law 837 = .ok (.istore 6, 2) := by decide +kernel
theorem dL_law_839 : decode cL_law 839 = .ok (.goto 852, 3) := by decide +kernel
theorem dL_law_842 : decode cL_law 842 = .ok (.aload_n 1, 1) := by decide +kernel
theorem dL_law_843 : decode cL_law 843 = .ok (.aload_n 0, 1) := by decide +kernel
theorem dL_law_844 : decode cL_law 844 = .ok (.iload 4, 2) := by decide +kernel
theorem dL_law_846 : decode cL_law 846 = .ok (.iconst 1, 1) := by decide +kernel
theorem dL_law_847 : decode cL_law 847 = .ok (.iadd, 1) := by decide +kernel
theorem dL_law_848 : decode cL_law 848 = .ok (.iaload, 1) := by decide +kernel
theorem dL_law_849 : decode cL_law 849 = .ok (.aload_n 3, 1) := by decide +kernel
theorem dL_law_850 : decode cL_law 850 = .ok (.invokestatic 184, 3) := by decide +kernel
theorem dL_law_853 : decode cL_law 853 = .ok (.istore 5, 2) := by decide +kernel
theorem dL_law_855 : decode cL_law 855 = .ok (.aload_n 2, 1) := by decide +kernel
theorem dL_law_856 : decode cL_law 856 = .ok (.aload_n 0, 1) := by decide +kernel
theorem dL_law_857 : decode cL_law 857 = .ok (.iload 4, 2) := by decide +kernel
theorem dL_law_859 : decode cL_law 859 = .ok (.iconst 1, 1) := by decide +kernel
theorem dL_law_860 : decode cL_law 860 = .ok (.iadd, 1) := by decide +kernel
theorem dL_law_861 : decode cL_law 861 = .ok (.iaload, 1) := by decide +kernel
theorem dL_law_862 : decode cL_law 862 = .ok (.invokevirtual 186, 3) := by decide +kernel
theorem dL_law_865 : decode cL_law 865 = .ok (.istore 6, 2) := by decide +kernel
theorem dL_law_867 : decode cL_law 867 = .ok (.aload_n 2, 1) := by decide +kernel
theorem dL_law_868 : decode cL_law 868 = .ok (.invokevirtual 187, 3) := by decide +kernel
theorem dL_law_871 : decode cL_law 871 = .ok (.iload 5, 2) := by decide +kernel
theorem dL_law_873 : decode cL_law 873 = .ok (.if_icmp .eq 5, 3) := by decide +kernel
theorem dL_law_876 : decode cL_law 876 = .ok (.iconst 0, 1) := by decide +kernel
theorem dL_law_878 : decode cL_law 878 = .ok (.iload 5, 2) := by decide +kernel
theorem dL_law_880 : decode cL_law 880 = .ok (.ifCond .ne 15, 3) := by decide +kernel
theorem dL_law_883 : decode cL_law 883 = .ok (.aload_n 3, 1) := by decide +kernel
theorem dL_law_884 : decode cL_law 884 = .ok (.iconst 0, 1) := by decide +kernel
theorem dL_law_885 : decode cL_law 885 = .ok (.laload, 1) := by decide +kernel
theorem dL_law_886 : decode cL_law 886 = .ok (.iload 6, 2) := by decide +kernel
theorem dL_law_888 : decode cL_law 888 = .ok (.i2l, 1) := by decide +kernel
theorem dL_law_889 : decode cL_law 889 = .ok (.lcmp, 1) := by decide +kernel
theorem dL_law_890 : decode cL_law 890 = .ok (.ifCond .eq 5, 3) := by decide +kernel
theorem dL_law_893 : decode cL_law 893 = .ok (.iconst 0, 1) := by decide +kernel
theorem dL_law_895 : decode cL_law 895 = .ok (.goto 796, 3) := by decide +kernel
theorem dL_law_898 : decode cL_law 898 = .ok (.aload_n 1, 1) := by decide +kernel
theorem dL_law_899 : decode cL_law 899 = .ok (.invokevirtual 190, 3) := by decide +kernel
theorem dL_law_902 : decode cL_law 902 = .ok (.pop, 1) := by decide +kernel
theorem dL_law_903 : decode cL_law 903 = .ok (.aload_n 2, 1) := by decide +kernel
theorem dL_law_904 : decode cL_law 904 = .ok (.invokevirtual 193, 3) := by decide +kernel
theorem dL_law_907 : decode cL_law 907 = .ok (.pop, 1) := by decide +kernel
theorem dL_law_908 : decode cL_law 908 = .ok (.goto 783, 3) := by decide +kernel
theorem dL_law_911 : decode cL_law 911 = .ok (.aload_n 1, 1) := by decide +kernel
theorem dL_law_912 : decode cL_law 912 = .ok (.invokevirtual 194, 3) := by decide +kernel
theorem dL_law_915 : decode cL_law 915 = .ok (.pop, 1) := by decide +kernel
theorem dL_law_916 : decode cL_law 916 = .ok (.aload_n 2, 1) := by decide +kernel
theorem dL_law_917 : decode cL_law 917 = .ok (.invokevirtual 197, 3) := by decide +kernel
theorem dL_law_920 : decode cL_law 920 = .ok (.pop, 1) := by decide +kernel
theorem dL_law_921 : decode cL_law 921 = .ok (.goto 770, 3) := by decide +kernel
theorem dL_law_924 : decode cL_law 924 = .ok (.aload_n 1, 1) := by decide +kernel
theorem dL_law_925 : decode cL_law 925 = .ok (.aload_n 0, 1) := by decide +kernel
theorem dL_law_926 : decode cL_law 926 = .ok (.iload 4, 2) := by decide +kernel
theorem dL_law_928 : decode cL_law 928 = .ok (.iconst 1, 1) := by decide +kernel
theorem dL_law_929 : decode cL_law 929 = .ok (.iadd, 1) := by decide +kernel
theorem dL_law_930 : decode cL_law 930 = .ok (.iaload, 1) := by decide +kernel
theorem dL_law_931 : decode cL_law 931 = .ok (.aload_n 0, 1) := by decide +kernel
theorem dL_law_932 : decode cL_law 932 = .ok (.iload 4, 2) := by decide +kernel
theorem dL_law_934 : decode cL_law 934 = .ok (.iconst 2, 1) := by decide +kernel
theorem dL_law_935 : decode cL_law 935 = .ok (.iadd, 1) := by decide +kernel
theorem dL_law_936 : decode cL_law 936 = .ok (.iaload, 1) := by decide +kernel
theorem dL_law_937 : decode cL_law 937 = .ok (.aload_n 3, 1) := by decide +kernel
theorem dL_law_938 : decode cL_law 938 = .ok (.invokestatic 198, 3) := by decide +kernel
theorem dL_law_941 : decode cL_law 941 = .ok (.istore 5, 2) := by decide +kernel
theorem dL_law_943 : decode cL_law 943 = .ok (.aload_n 2, 1) := by decide +kernel
theorem dL_law_944 : decode cL_law 944 = .ok (.aload_n 0, 1) := by decide +kernel
theorem dL_law_945 : decode cL_law 945 = .ok (.iload 4, 2) := by decide +kernel
theorem dL_law_947 : decode cL_law 947 = .ok (.iconst 1, 1) := by decide +kernel
theorem dL_law_948 : decode cL_law 948 = .ok (.iadd, 1) := by decide +kernel
theorem dL_law_949 : decode cL_law 949 = .ok (.iaload, 1) := by decide +kernel
theorem dL_law_950 : decode cL_law 950 = .ok (.aload_n 0, 1) := by decide +kernel
theorem dL_law_951 : decode cL_law 951 = .ok (.iload 4, 2) := by decide +kernel
theorem dL_law_953 : decode cL_law 953 = .ok (.iconst 2, 1) := by decide +kernel
theorem dL_law_954 : decode cL_law 954 = .ok (.iadd, 1) := by decide +kernel
theorem dL_law_955 : decode cL_law 955 = .ok (.iaload, 1) := by decide +kernel
theorem dL_law_956 : decode cL_law 956 = .ok (.invokevirtual 200, 3) := by decide +kernel
theorem dL_law_959 : decode cL_law 959 = .ok (.istore 6, 2) := by decide +kernel
theorem dL_law_961 : decode cL_law 961 = .ok (.goto 730, 3) := by decide +kernel
theorem dL_law_964 : decode cL_law 964 = .ok (.aload_n 1, 1) := by decide +kernel
theorem dL_law_965 : decode cL_law 965 = .ok (.aload_n 0, 1) := by decide +kernel
theorem dL_law_966 : decode cL_law 966 = .ok (.iload 4, 2) := by decide +kernel
theorem dL_law_968 : decode cL_law 968 = .ok (.iconst 1, 1) := by decide +kernel
theorem dL_law_969 : decode cL_law 969 = .ok (.iadd, 1) := by decide +kernel
theorem dL_law_970 : decode cL_law 970 = .ok (.iaload, 1) := by decide +kernel
theorem dL_law_971 : decode cL_law 971 = .ok (.aload_n 3, 1) := by decide +kernel
theorem dL_law_972 : decode cL_law 972 = .ok (.invokestatic 201, 3) := by decide +kernel
theorem dL_law_975 : decode cL_law 975 = .ok (.istore 5, 2) := by decide +kernel
theorem dL_law_977 : decode cL_law 977 = .ok (.aload_n 2, 1) := by decide +kernel
theorem dL_law_978 : decode cL_law 978 = .ok (.aload_n 0, 1) := by decide +kernel
theorem dL_law_979 : decode cL_law 979 = .ok (.iload 4, 2) := by decide +kernel
theorem dL_law_981 : decode cL_law 981 = .ok (.iconst 1, 1) := by decide +kernel
theorem dL_law_982 : decode cL_law 982 = .ok (.iadd, 1) := by decide +kernel
theorem dL_law_983 : decode cL_law 983 = .ok (.iaload, 1) := by decide +kernel
theorem dL_law_984 : decode cL_law 984 = .ok (.invokevirtual 203, 3) := by decide +kernel
theorem dL_law_987 : decode cL_law 987 = .ok (.istore 6, 2) := by decide +kernel
theorem dL_law_989 : decode cL_law 989 = .ok (.goto 702, 3) := by decide +kernel
theorem dL_law_992 : decode cL_law 992 = .ok (.aload_n 1, 1) := by decide +kernel
theorem dL_law_993 : decode cL_law 993 = .ok (.aload_n 3, 1) := by decide +kernel
theorem dL_law_994 : decode cL_law 994 = .ok (.invokestatic 204, 3) := by decide +kernel
theorem dL_law_997 : decode cL_law 997 = .ok (.istore 5, 2) := by decide +kernel
theorem dL_law_999 : decode cL_law 999 = .ok (.aload_n 2, 1) := by decide +kernel
set_option maxRecDepth 4000 in
theorem law_c14 {p : Program} {l : Launch} {e : Env} {s : State} {m : MethodId} {below : List Frame} {meth : Method} {c : Code} {b L : Nat} {xs : Nat → Int32} {D : va_G} {cy : Nat → ClassId} {ad : Nat → Nat} {A : Nat → Prop} (hlT : l.stackTraces = false) (F : FxM D cy ad p m c cL_law 8 s #[Value.ref b] RL A) (hX : va_X b L xs s s.heap) (hbl : b < s.heap.size) (hbA : ¬ A b) (hL : L ≤ 3072) (y : Int) (hy0 : 0 ≤ y) (hy1 : y + 6 ≤ (L : Int)) (nk sk : Nat) (hnk : nk ≤ 9000 ∧ sk ≤ 90000) (M : Mem) (hJ : Iw M) (hR : RlD M ∧ RlG M) (ih : ∀ M' : Mem, Iw M' → (RlD M' ∧ RlG M') → Z D cy ad p l e room_1 s m #[Value.ref b] below meth c A 8 (nk + 6) (sk + 36) (lw_Z below #[Value.ref b] s) 23 [(4, ii (y + 6)), (0, .ref b), (1, .ref (ad 0)), (2, .ref (ad 131)), (3, .ref (ad 151))] [] M') : Z D cy ad p l e room_1 s m #[Value.ref b] below meth c A 8 nk sk (lw_Z below #[Value.ref b] s) 734 [(4, ii y), (0, .ref b), (1, .ref (ad 0)), (2, .ref (ad 131)), (3, .ref (ad 151))] [] M := by
  obtain ⟨hI, hW⟩ := hJ
  have hRT := hR.1.1
  have hRS := hR.1.2
  have hRG := hR.2
  refine z_aload_n F dL_law_734 rfl (q := 2) rfl ?_
  refine z_aload_n F dL_law_735 rfl (q := 1) rfl ?_
  refine z_iload F dL_law_736 (q := 0) rfl ?_
  refine z_iconst F dL_law_738 ?_
  refine z_iadd F dL_law_739 ?_
  refine z_sld F hX hbl hbA hL (by omega) (by omega) dL_law_740 (fun v1 ev1 rv1 => ?_)
  refine z_aload_n F dL_law_741 rfl (q := 1) rfl ?_
  refine z_iload F dL_law_742 (q := 0) rfl ?_
  refine z_iconst F dL_law_744 ?_
  refine z_iadd F dL_law_745 ?_
  refine z_sld F hX hbl hbA hL (by omega) (by omega) dL_law_746 (fun v2 ev2 rv2 => ?_)
  refine z_aload_n F dL_law_747 rfl (q := 4) rfl ?_
  have hIp := hI
  refine zh_i (rest := []) F (k_L_judge l hlT M ⟨hI, hW⟩ v1 (by omega) (by omega) v2 (by omega) (by omega)) cs_L_175 ⟨Nat.le_of_ble_eq_true rfl, Nat.le_of_ble_eq_true rfl⟩ ⟨show _ ≤ 601024 by omega, show _ ≤ 7293034 by omega⟩ rfl rfl rfl (Nat.le_of_ble_eq_true rfl) dL_law_748 (fun v3 M4 rv3 hI p5 => ?_)
  obtain ⟨hI, hW⟩ := hI
  obtain ⟨fp5, xp5⟩ := p5
  have tM4_0_1 : M4 0 1 = M 0 1 := fp5.at (by decide)
  have tM4_131_6 : M4 131 6 = M 131 6 := fp5.at (by decide)
  have hRG : RlG M4 := rg_fr hIp fp5 (by unfold No5; decide) (by unfold NoI No5; decide) (by unfold NoG; decide) hRG
  have hRT : RlT M4 := rl_fr fp5 (by decide) hRT
  have hRS : RlS M4 := rs_fr hIp fp5 (by decide) (by decide) (by decide) (by unfold No5; decide) (by unfold NoI No5; decide) hRS
  refine z_istore F dL_law_751 (by decide) (ls' := [(5, ii v3), (4, ii y), (0, .ref b), (1, .ref (ad 0)), (2, .ref (ad 131)), (3, .ref (ad 151))]) rfl ?_
  refine z_aload_n F dL_law_753 rfl (q := 4) rfl ?_
  refine z_aload_n F dL_law_754 rfl (q := 2) rfl ?_
  refine z_iload F dL_law_755 (q := 1) rfl ?_
  refine z_iconst F dL_law_757 ?_
  refine z_iadd F dL_law_758 ?_
  refine z_sld F hX hbl hbA hL (by omega) (by omega) dL_law_759 (fun v6 ev6 rv6 => ?_)
  have zv6 : v1 = v6 := ev1.trans ev6.symm
  subst zv6
  refine z_aload_n F dL_law_760 rfl (q := 2) rfl ?_
  refine z_iload F dL_law_761 (q := 1) rfl ?_
  refine z_iconst F dL_law_763 ?_
  refine z_iadd F dL_law_764 ?_
  refine z_sld F hX hbl hbA hL (by omega) (by omega) dL_law_765 (fun v7 ev7 rv7 => ?_)
  have zv7 : v2 = v7 := ev2.trans ev7.symm
  subst zv7
  have hIp := hI
  refine zl_i (rest := []) F (k_X12_judge l M4 ⟨hI, hW⟩ v1 (by omega) (by omega) v2 (by omega) (by omega)) cs_L_177 (T := TX12) (N := 44) (ci := 12) rfl gs_131 ⟨Nat.le_of_ble_eq_true rfl, Nat.le_of_ble_eq_true rfl⟩ ⟨show _ ≤ 601024 by omega, show _ ≤ 7293034 by omega⟩ rfl rfl rfl (Nat.le_of_ble_eq_true rfl) dL_law_766 (fun v8 M9 rv8 hI p10 => ?_)
  obtain ⟨hI, hW⟩ := hI
  obtain ⟨⟨av8, bv8⟩, fp10⟩ := p10
  have tM9_0_1 : M9 0 1 = M4 0 1 := fp10.at (by decide)
  have tM9_131_6 : M9 131 6 = M4 131 6 := fp10.t6 (by decide)
  have hRG : RlG M9 := rg_fr hIp fp10 (by unfold No5; decide) (by unfold NoI No5; decide) (by unfold NoG; decide) hRG
  have hRT : RlT M9 := rl_fr fp10 (by decide) hRT
  have hRS : RlS M9 := rs_fr hIp fp10 (by decide) (by decide) (by decide) (by unfold No5; decide) (by unfold NoI No5; decide) hRS
  refine z_istore F dL_law_769 (by decide) (ls' := [(6, ii v8), (5, ii v3), (4, ii y), (0, .ref b), (1, .ref (ad 0)), (2, .ref (ad 131)), (3, .ref (ad 151))]) rfl ?_
  refine z_goto (tgt := 1691) F dL_law_771 (by decide +kernel) ?_
  refine z_iincN F dL_law_1691 (q := 2) rfl (by decide) (fun w e => ?_)
  subst e
  refine z_eq (ls' := [(4, ii (y + 6)), (6, ii v8), (5, ii v3), (0, .ref b), (1, .ref (ad 0)), (2, .ref (ad 131)), (3, .ref (ad 151))]) rfl rfl rfl ?_
  refine z_goto (tgt := 23) F dL_law_1694 (by decide +kernel) ?_
  refine z_loc [0, 3, 4, 5, 6] (ls' := [(4, ii (y + 6)), (0, .ref b), (1, .ref (ad 0)), (2, .ref (ad 131)), (3, .ref (ad 151))]) rfl ?_
  refine z_wide (n1 := nk + 6) (s1 := sk + 36) (by omega) (by omega) ?_
  exact ih _ ⟨hI, hW⟩ ⟨⟨hRT, hRS⟩, hRG⟩
set_option maxRecDepth 4000 in
theorem law_c15 {p : Program} {l : Launch} {e : Env} {s : State} {m : MethodId} {below : List Frame} {meth : Method} {c : Code} {b L : Nat} {xs : Nat → Int32} {D : va_G} {cy : Nat → ClassId} {ad : Nat → Nat} {A : Nat → Prop} (hlT : l.stackTraces = false) (F : FxM D cy ad p m c cL_law 8 s #[Value.ref b] RL A) (hX : va_X b L xs s s.heap) (hbl : b < s.heap.size) (hbA : ¬ A b) (hL : L ≤ 3072) (y : Int) (hy0 : 0 ≤ y) (hy1 : y + 6 ≤ (L : Int)) (nk sk : Nat) (hnk : nk ≤ 9000 ∧ sk ≤ 90000) (M : Mem) (hJ : Iw M) (hR : RlD M ∧ RlG M) (ih : ∀ M' : Mem, Iw M' → (RlD M' ∧ RlG M') → Z D cy ad p l e room_1 s m #[Value.ref b] below meth c A 8 (nk + 6) (sk + 36) (lw_Z below #[Value.ref b] s) 23 [(4, ii (y + 6)), (0, .ref b), (1, .ref (ad 0)), (2, .ref (ad 131)), (3, .ref (ad 151))] [] M') : Z D cy ad p l e room_1 s m #[Value.ref b] below meth c A 8 nk sk (lw_Z below #[Value.ref b] s) 774 [(4, ii y), (0, .ref b), (1, .ref (ad 0)), (2, .ref (ad 131)), (3, .ref (ad 151))] [] M := by
  obtain ⟨hI, hW⟩ := hJ
  have hRT := hR.1.1
  have hRS := hR.1.2
  have hRG := hR.2
  refine z_aload_n F dL_law_774 rfl (q := 2) rfl ?_
  refine z_aload_n F dL_law_775 rfl (q := 1) rfl ?_
  refine z_iload F dL_law_776 (q := 0) rfl ?_
  refine z_iconst F dL_law_778 ?_
  refine z_iadd F dL_law_779 ?_
  refine z_sld F hX hbl hbA hL (by omega) (by omega) dL_law_780 (fun v1 ev1 rv1 => ?_)
  refine z_aload_n F dL_law_781 rfl (q := 4) rfl ?_
  have hIp := hI
  refine zh_i (rest := []) F (k_L_perform l hlT M ⟨hI, hW⟩ v1 (by omega) (by omega)) cs_L_178 ⟨Nat.le_of_ble_eq_true rfl, Nat.le_of_ble_eq_true rfl⟩ ⟨show _ ≤ 601024 by omega, show _ ≤ 7293034 by omega⟩ rfl rfl rfl (Nat.le_of_ble_eq_true rfl) dL_law_782 (fun v2 M3 rv2 hI p4 => ?_)
  obtain ⟨hI, hW⟩ := hI
  obtain ⟨fp4, xp4⟩ := p4
  have tM3_0_1 : M3 0 1 = M 0 1 := fp4.at (by decide)
  have tM3_131_6 : M3 131 6 = M 131 6 := fp4.at (by decide)
  have hRG : RlG M3 := rg_fr hIp fp4 (by unfold No5; decide) (by unfold NoI No5; decide) (by unfold NoG; decide) hRG
  have hRT : RlT M3 := rl_fr fp4 (by decide) hRT
  have hRS : RlS M3 := rs_fr hIp fp4 (by decide) (by decide) (by decide) (by unfold No5; decide) (by unfold NoI No5; decide) hRS
  refine z_istore F dL_law_785 (by decide) (ls' := [(5, ii v2), (4, ii y), (0, .ref b), (1, .ref (ad 0)), (2, .ref (ad 131)), (3, .ref (ad 151))]) rfl ?_
  refine z_aload_n F dL_law_787 rfl (q := 4) rfl ?_
  refine z_aload_n F dL_law_788 rfl (q := 2) rfl ?_
  refine z_iload F dL_law_789 (q := 1) rfl ?_
  refine z_iconst F dL_law_791 ?_
  refine z_iadd F dL_law_792 ?_
  refine z_sld F hX hbl hbA hL (by omega) (by omega) dL_law_793 (fun v5 ev5 rv5 => ?_)
  have zv5 : v1 = v5 := ev1.trans ev5.symm
  subst zv5
  have hIp := hI
  refine zl_i (rest := []) F (k_X12_perform l M3 ⟨hI, hW⟩ v1 (by omega) (by omega)) cs_L_180 (T := TX12) (N := 44) (ci := 12) rfl gs_131 ⟨Nat.le_of_ble_eq_true rfl, Nat.le_of_ble_eq_true rfl⟩ ⟨show _ ≤ 601024 by omega, show _ ≤ 7293034 by omega⟩ rfl rfl rfl (Nat.le_of_ble_eq_true rfl) dL_law_794 (fun v6 M7 rv6 hI p8 => ?_)
  obtain ⟨hI, hW⟩ := hI
  obtain ⟨⟨av6, bv6⟩, fp8⟩ := p8
  have tM7_0_1 : M7 0 1 = M3 0 1 := fp8.at (by decide)
  have tM7_131_6 : M7 131 6 = M3 131 6 := fp8.t6 (by decide)
  have hRG : RlG M7 := rg_fr hIp fp8 (by unfold No5; decide) (by unfold NoI No5; decide) (by unfold NoG; decide) hRG
  have hRT : RlT M7 := rl_fr fp8 (by decide) hRT
  have hRS : RlS M7 := rs_fr hIp fp8 (by decide) (by decide) (by decide) (by unfold No5; decide) (by unfold NoI No5; decide) hRS
  refine z_istore F dL_law_797 (by decide) (ls' := [(6, ii v6), (5, ii v2), (4, ii y), (0, .ref b), (1, .ref (ad 0)), (2, .ref (ad 131)), (3, .ref (ad 151))]) rfl ?_
  refine z_goto (tgt := 1691) F dL_law_799 (by decide +kernel) ?_
  refine z_iincN F dL_law_1691 (q := 2) rfl (by decide) (fun w e => ?_)
  subst e
  refine z_eq (ls' := [(4, ii (y + 6)), (6, ii v6), (5, ii v2), (0, .ref b), (1, .ref (ad 0)), (2, .ref (ad 131)), (3, .ref (ad 151))]) rfl rfl rfl ?_
  refine z_goto (tgt := 23) F dL_law_1694 (by decide +kernel) ?_
  refine z_loc [0, 3, 4, 5, 6] (ls' := [(4, ii (y + 6)), (0, .ref b), (1, .ref (ad 0)), (2, .ref (ad 131)), (3, .ref (ad 151))]) rfl ?_
  refine z_wide (n1 := nk + 6) (s1 := sk + 36) (by omega) (by omega) ?_
  exact ih _ ⟨hI, hW⟩ ⟨⟨hRT, hRS⟩, hRG⟩
set_option maxRecDepth 4000 in
theorem law_c16 {p : Program} {l : Launch} {e : Env} {s : State} {m : MethodId} {below : List Frame} {meth : Method} {c : Code} {b L : Nat} {xs : Nat → Int32} {D : va_G} {cy : Nat → ClassId} {ad : Nat → Nat} {A : Nat → Prop} (hlT : l.stackTraces = false) (F : FxM D cy ad p m c cL_law 8 s #[Value.ref b] RL A) (hX : va_X b L xs s s.heap) (hbl : b < s.heap.size) (hbA : ¬ A b) (hL : L ≤ 3072) (y : Int) (hy0 : 0 ≤ y) (hy1 : y + 6 ≤ (L : Int)) (nk sk : Nat) (hnk : nk ≤ 9000 ∧ sk ≤ 90000) (M : Mem) (hJ : Iw M) (hR : RlD M ∧ RlG M) (ih : ∀ M' : Mem, Iw M' → (RlD M' ∧ RlG M') → Z D cy ad p l e room_1 s m #[Value.ref b] below meth c A 8 (nk + 6) (sk + 36) (lw_Z below #[Value.ref b] s) 23 [(4, ii (y + 6)), (0, .ref b), (1, .ref (ad 0)), (2, .ref (ad 131)), (3, .ref (ad 151))] [] M') : Z D cy ad p l e room_1 s m #[Value.ref b] below meth c A 8 nk sk (lw_Z below #[Value.ref b] s) 802 [(4, ii y), (0, .ref b), (1, .ref (ad 0)), (2, .ref (ad 131)), (3, .ref (ad 151))] [] M := by
  obtain ⟨hI, hW⟩ := hJ
  have hRT := hR.1.1
  have hRS := hR.1.2
  have hRG := hR.2
  refine z_aload_n F dL_law_802 rfl (q := 2) rfl ?_
  refine z_aload_n F dL_law_803 rfl (q := 1) rfl ?_
  refine z_iload F dL_law_804 (q := 0) rfl ?_
  refine z_iconst F dL_law_806 ?_
  refine z_iadd F dL_law_807 ?_
  refine z_sld F hX hbl hbA hL (by omega) (by omega) dL_law_808 (fun v1 ev1 rv1 => ?_)
  refine z_aload_n F dL_law_809 rfl (q := 1) rfl ?_
  refine z_iload F dL_law_810 (q := 0) rfl ?_
  refine z_iconst F dL_law_812 ?_
  refine z_iadd F dL_law_813 ?_
  refine z_sld F hX hbl hbA hL (by omega) (by omega) dL_law_814 (fun v2 ev2 rv2 => ?_)
  refine z_aload_n F dL_law_815 rfl (q := 4) rfl ?_
  have hIp := hI
  refine zh_i (rest := []) F (k_L_season l hlT M ⟨hI, hW⟩ v1 (by omega) (by omega) v2 (by omega) (by omega)) cs_L_181 ⟨Nat.le_of_ble_eq_true rfl, Nat.le_of_ble_eq_true rfl⟩ ⟨show _ ≤ 601024 by omega, show _ ≤ 7293034 by omega⟩ rfl rfl rfl (Nat.le_of_ble_eq_true rfl) dL_law_816 (fun v3 M4 rv3 hI p5 => ?_)
  obtain ⟨hI, hW⟩ := hI
  obtain ⟨fp5, xp5⟩ := p5
  have tM4_0_1 : M4 0 1 = M 0 1 := fp5.t1 (by decide)
  have tM4_131_6 : M4 131 6 = M 131 6 := fp5.at (by decide)
  have hRG : RlG M4 := rg_fr hIp fp5 (by unfold No5; decide) (by unfold NoI No5; decide) (by unfold NoG; decide) hRG
  have hRT : RlT M4 := rl_fr fp5 (by decide) hRT
  have hRS : RlS M4 := rs_fr hIp fp5 (by decide) (by decide) (by decide) (by unfold No5; decide) (by unfold NoI No5; decide) hRS
  refine z_istore F dL_law_819 (by decide) (ls' := [(5, ii v3), (4, ii y), (0, .ref b), (1, .ref (ad 0)), (2, .ref (ad 131)), (3, .ref (ad 151))]) rfl ?_
  refine z_aload_n F dL_law_821 rfl (q := 4) rfl ?_
  refine z_aload_n F dL_law_822 rfl (q := 2) rfl ?_
  refine z_iload F dL_law_823 (q := 1) rfl ?_
  refine z_iconst F dL_law_825 ?_
  refine z_iadd F dL_law_826 ?_
  refine z_sld F hX hbl hbA hL (by omega) (by omega) dL_law_827 (fun v6 ev6 rv6 => ?_)
  have zv6 : v1 = v6 := ev1.trans ev6.symm
  subst zv6
  refine z_aload_n F dL_law_828 rfl (q := 2) rfl ?_
  refine z_iload F dL_law_829 (q := 1) rfl ?_
  refine z_iconst F dL_law_831 ?_
  refine z_iadd F dL_law_832 ?_
  refine z_sld F hX hbl hbA hL (by omega) (by omega) dL_law_833 (fun v7 ev7 rv7 => ?_)
  have zv7 : v2 = v7 := ev2.trans ev7.symm
  subst zv7
  have hIp := hI
  refine zl_i (rest := []) F (k_X12_season l M4 ⟨hI, hW⟩ v1 (by omega) (by omega) v2 (by omega) (by omega)) cs_L_183 (T := TX12) (N := 44) (ci := 12) rfl gs_131 ⟨Nat.le_of_ble_eq_true rfl, Nat.le_of_ble_eq_true rfl⟩ ⟨show _ ≤ 601024 by omega, show _ ≤ 7293034 by omega⟩ rfl rfl rfl (Nat.le_of_ble_eq_true rfl) dL_law_834 (fun v8 M9 rv8 hI p10 => ?_)
  obtain ⟨hI, hW⟩ := hI
  obtain ⟨⟨av8, bv8⟩, fp10⟩ := p10
  have tM9_0_1 : M9 0 1 = M4 0 1 := fp10.at (by decide)
  have tM9_131_6 : M9 131 6 = M4 131 6 := fp10.t6 (by decide)
  have hRG : RlG M9 := rg_fr hIp fp10 (by unfold No5; decide) (by unfold NoI No5; decide) (by unfold NoG; decide) hRG
  have hRT : RlT M9 := rl_fr fp10 (by decide) hRT
  have hRS : RlS M9 := rs_fr hIp fp10 (by decide) (by decide) (by decide) (by unfold No5; decide) (by unfold NoI No5; decide) hRS
  refine z_istore F dL_law_837 (by decide) (ls' := [(6, ii v8), (5, ii v3), (4, ii y), (0, .ref b), (1, .ref (ad 0)), (2, .ref (ad 131)), (3, .ref (ad 151))]) rfl ?_
  refine z_goto (tgt := 1691) F dL_law_839 (by decide +kernel) ?_
  refine z_iincN F dL_law_1691 (q := 2) rfl (by decide) (fun w e => ?_)
  subst e
  refine z_eq (ls' := [(4, ii (y + 6)), (6, ii v8), (5, ii v3), (0, .ref b), (1, .ref (ad 0)), (2, .ref (ad 131)), (3, .ref (ad 151))]) rfl rfl rfl ?_
  refine z_goto (tgt := 23) F dL_law_1694 (by decide +kernel) ?_
  refine z_loc [0, 3, 4, 5, 6] (ls' := [(4, ii (y + 6)), (0, .ref b), (1, .ref (ad 0)), (2, .ref (ad 131)), (3, .ref (ad 151))]) rfl ?_
  refine z_wide (n1 := nk + 6) (s1 := sk + 36) (by omega) (by omega) ?_
  exact ih _ ⟨hI, hW⟩ ⟨⟨hRT, hRS⟩, hRG⟩
set_option maxRecDepth 4000 in
theorem law_c17 {p : Program} {l : Launch} {e : Env} {s : State} {m : MethodId} {below : List Frame} {meth : Method} {c : Code} {b L : Nat} {xs : Nat → Int32} {D : va_G} {cy : Nat → ClassId} {ad : Nat → Nat} {A : Nat → Prop} (hlT : l.stackTraces = false) (F : FxM D cy ad p m c cL_law 8 s #[Value.ref b] RL A) (hX : va_X b L xs s s.heap) (hbl : b < s.heap.size) (hbA : ¬ A b) (hL : L ≤ 3072) (y : Int) (hy0 : 0 ≤ y) (hy1 : y + 6 ≤ (L : Int)) (nk sk : Nat) (hnk : nk ≤ 9000 ∧ sk ≤ 90000) (M : Mem) (hJ : Iw M) (hR : RlD M ∧ RlG M) (ih : ∀ M' : Mem, Iw M' → (RlD M' ∧ RlG M') → Z D cy ad p l e room_1 s m #[Value.ref b] below meth c A 8 (nk + 6) (sk + 36) (lw_Z below #[Value.ref b] s) 23 [(4, ii (y + 6)), (0, .ref b), (1, .ref (ad 0)), (2, .ref (ad 131)), (3, .ref (ad 151))] [] M') : Z D cy ad p l e room_1 s m #[Value.ref b] below meth c A 8 nk sk (lw_Z below #[Value.ref b] s) 842 [(4, ii y), (0, .ref b), (1, .ref (ad 0)), (2, .ref (ad 131)), (3, .ref (ad 151))] [] M := by
  obtain ⟨hI, hW⟩ := hJ
  have hRT := hR.1.1
  have hRS := hR.1.2
  have hRG := hR.2
  refine z_aload_n F dL_law_842 rfl (q := 2) rfl ?_
  refine z_aload_n F dL_law_843 rfl (q := 1) rfl ?_
  refine z_iload F dL_law_844 (q := 0) rfl ?_
  refine z_iconst F dL_law_846 ?_
  refine z_iadd F dL_law_847 ?_
  refine z_sld F hX hbl hbA hL (by omega) (by omega) dL_law_848 (fun v1 ev1 rv1 => ?_)
  refine z_aload_n F dL_law_849 rfl (q := 4) rfl ?_
  have hIp := hI
  refine zh_i (rest := []) F (k_L_oddRing l hlT M ⟨hI, hW⟩ v1 (by omega) (by omega)) cs_L_184 ⟨Nat.le_of_ble_eq_true rfl, Nat.le_of_ble_eq_true rfl⟩ ⟨show _ ≤ 601024 by omega, show _ ≤ 7293034 by omega⟩ rfl rfl rfl (Nat.le_of_ble_eq_true rfl) dL_law_850 (fun v2 M3 rv2 hI p4 => ?_)
  obtain ⟨hI, hW⟩ := hI
  obtain ⟨fp4, xp4⟩ := p4
  have tM3_0_1 : M3 0 1 = M 0 1 := fp4.at (by decide)
  have tM3_131_6 : M3 131 6 = M 131 6 := fp4.at (by decide)
  have hRS0 := hRS
  have hRG0 := hRG
  have hRG : RlG M3 := rg_fr hIp fp4 (by unfold No5; decide) (by unfold NoI No5; decide) (by unfold NoG; decide) hRG
  have hIt := hIp
  have hRT : RlT M3 := rl_fr fp4 (by decide) hRT
  have hRS : RlS M3 := rs_fr hIp fp4 (by decide) (by decide) (by decide) (by unfold No5; decide) (by unfold NoI No5; decide) hRS
  refine z_istore F dL_law_853 (by decide) (ls' := [(5, ii v2), (4, ii y), (0, .ref b), (1, .ref (ad 0)), (2, .ref (ad 131)), (3, .ref (ad 151))]) rfl ?_
  refine z_aload_n F dL_law_855 rfl (q := 4) rfl ?_
  refine z_aload_n F dL_law_856 rfl (q := 2) rfl ?_
  refine z_iload F dL_law_857 (q := 1) rfl ?_
  refine z_iconst F dL_law_859 ?_
  refine z_iadd F dL_law_860 ?_
  refine z_sld F hX hbl hbA hL (by omega) (by omega) dL_law_861 (fun v5 ev5 rv5 => ?_)
  have zv5 : v1 = v5 := ev1.trans ev5.symm
  subst zv5
  have hIp := hI
  refine zl_i (rest := []) F (k_X12_oddRing l M3 ⟨hI, hW⟩ v1 (by omega) (by omega)) cs_L_186 (T := TX12) (N := 44) (ci := 12) rfl gs_131 ⟨Nat.le_of_ble_eq_true rfl, Nat.le_of_ble_eq_true rfl⟩ ⟨show _ ≤ 601024 by omega, show _ ≤ 7293034 by omega⟩ rfl rfl rfl (Nat.le_of_ble_eq_true rfl) dL_law_862 (fun v6 M7 rv6 hI p8 => ?_)
  obtain ⟨hI, hW⟩ := hI
  obtain ⟨⟨av6, bv6⟩, fp8, xp8, yp8⟩ := p8
  have tM7_0_1 : M7 0 1 = M3 0 1 := fp8.at (by decide)
  have tM7_131_6 : M7 131 6 = M3 131 6 := fp8.t6 (by decide)
  have hRG : RlG M7 := rg_fr hIp fp8 (by unfold No5; decide) (by unfold NoI No5; decide) (by unfold NoG; decide) hRG
  have hz9 : M7 131 4 = 0 → v6 = M3 151 0 := fun q => xp4.elim (fun r => oz_same (p10 hIt).1 hRS0 hRG0.1 r.2.2.2 (fun c => fp4.at (by decide)) (yp8 q)) (fun r => by have h9 := r.2; exfalso; omega)
  have hq2 : M7 151 0 = M3 151 0 := fp8.at (by decide)
  have hRT : RlT M7 := rl_fr fp8 (by decide) hRT
  have hRS : RlS M7 := rs_fr hIp fp8 (by decide) (by decide) (by decide) (by unfold No5; decide) (by unfold NoI No5; decide) hRS
  refine z_istore F dL_law_865 (by decide) (ls' := [(6, ii v6), (5, ii v2), (4, ii y), (0, .ref b), (1, .ref (ad 0)), (2, .ref (ad 131)), (3, .ref (ad 151))]) rfl ?_
  refine z_aload_n F dL_law_867 rfl (q := 5) rfl ?_
  have hIp := hI
  refine zl_i (rest := []) F (k_X12_thrown l M7 ⟨hI, hW⟩) cs_L_187 (T := TX12) (N := 44) (ci := 12) rfl gs_131 ⟨Nat.le_of_ble_eq_true rfl, Nat.le_of_ble_eq_true rfl⟩ ⟨show _ ≤ 601024 by omega, show _ ≤ 7293034 by omega⟩ rfl rfl rfl (Nat.le_of_ble_eq_true rfl) dL_law_868 (fun v9 M10 rv9 hI p11 => ?_)
  obtain ⟨hI, hW⟩ := hI
  obtain ⟨⟨av9, bv9⟩, rfl, xp11⟩ := p11
  refine z_iload F dL_law_871 (q := 1) rfl ?_
  refine z_icmp_eq (tgt := 878) F dL_law_873 (by decide +kernel) (by omega) (by omega) (fun c12 => ?_) (fun c12 => ?_)
  · refine z_iload F dL_law_878 (q := 1) rfl ?_
    refine z_if_ne (tgt := 895) F dL_law_880 (by decide +kernel) (by omega) (fun c13 => ?_) (fun c13 => ?_)
    · refine z_goto (tgt := 1691) F dL_law_895 (by decide +kernel) ?_
      refine z_iincN F dL_law_1691 (q := 2) rfl (by decide) (fun w e => ?_)
      subst e
      refine z_eq (ls' := [(4, ii (y + 6)), (6, ii v6), (5, ii v2), (0, .ref b), (1, .ref (ad 0)), (2, .ref (ad 131)), (3, .ref (ad 151))]) rfl rfl rfl ?_
      refine z_goto (tgt := 23) F dL_law_1694 (by decide +kernel) ?_
      refine z_loc [0, 3, 4, 5, 6] (ls' := [(4, ii (y + 6)), (0, .ref b), (1, .ref (ad 0)), (2, .ref (ad 131)), (3, .ref (ad 151))]) rfl ?_
      refine z_wide (n1 := nk + 6) (s1 := sk + 36) (by omega) (by omega) ?_
      exact ih _ ⟨hI, hW⟩ ⟨⟨hRT, hRS⟩, hRG⟩
    · refine z_aload_n F dL_law_883 rfl (q := 6) rfl ?_
      refine z_iconst F dL_law_884 ?_
      refine z_lald F hI gs_151 (by omega) (by omega) (by decide) bd_151 dL_law_885 (fun v14 (ev14 : v14 = M7 151 0) av14 bv14 => ?_)
      refine z_iload F dL_law_886 (q := 0) rfl ?_
      refine z_i2l F dL_law_888 (by omega) ?_
      refine z_lcmp F dL_law_889 (by omega) (by omega) (fun v15 ev15 => ?_)
      refine z_if_eq (tgt := 895) F dL_law_890 (by decide +kernel) (by omega) (fun c16 => ?_) (fun c16 => ?_)
      · refine z_goto (tgt := 1691) F dL_law_895 (by decide +kernel) ?_
        refine z_iincN F dL_law_1691 (q := 2) rfl (by decide) (fun w e => ?_)
        subst e
        refine z_eq (ls' := [(4, ii (y + 6)), (6, ii v6), (5, ii v2), (0, .ref b), (1, .ref (ad 0)), (2, .ref (ad 131)), (3, .ref (ad 151))]) rfl rfl rfl ?_
        refine z_goto (tgt := 23) F dL_law_1694 (by decide +kernel) ?_
        refine z_loc [0, 3, 4, 5, 6] (ls' := [(4, ii (y + 6)), (0, .ref b), (1, .ref (ad 0)), (2, .ref (ad 131)), (3, .ref (ad 151))]) rfl ?_
        refine z_wide (n1 := nk + 6) (s1 := sk + 36) (by omega) (by omega) ?_
        exact ih _ ⟨hI, hW⟩ ⟨⟨hRT, hRS⟩, hRG⟩
      · refine z_iconst F dL_law_893 ?_
        exfalso
        omega
  · refine z_iconst F dL_law_876 ?_
    exfalso
    omega
set_option maxRecDepth 4000 in
theorem law_c18 {p : Program} {l : Launch} {e : Env} {s : State} {m : MethodId} {below : List Frame} {meth : Method} {c : Code} {b L : Nat} {xs : Nat → Int32} {D : va_G} {cy : Nat → ClassId} {ad : Nat → Nat} {A : Nat → Prop} (hlT : l.stackTraces = false) (F : FxM D cy ad p m c cL_law 8 s #[Value.ref b] RL A) (hX : va_X b L xs s s.heap) (hbl : b < s.heap.size) (hbA : ¬ A b) (hL : L ≤ 3072) (y : Int) (hy0 : 0 ≤ y) (hy1 : y + 6 ≤ (L : Int)) (nk sk : Nat) (hnk : nk ≤ 9000 ∧ sk ≤ 90000) (M : Mem) (hJ : Iw M) (hR : RlD M ∧ RlG M) (ih : ∀ M' : Mem, Iw M' → (RlD M' ∧ RlG M') → Z D cy ad p l e room_1 s m #[Value.ref b] below meth c A 8 (nk + 6) (sk + 36) (lw_Z below #[Value.ref b] s) 23 [(4, ii (y + 6)), (0, .ref b), (1, .ref (ad 0)), (2, .ref (ad 131)), (3, .ref (ad 151))] [] M') : Z D cy ad p l e room_1 s m #[Value.ref b] below meth c A 8 nk sk (lw_Z below #[Value.ref b] s) 898 [(4, ii y), (0, .ref b), (1, .ref (ad 0)), (2, .ref (ad 131)), (3, .ref (ad 151))] [] M := by
  obtain ⟨hI, hW⟩ := hJ
  have hRT := hR.1.1
  have hRS := hR.1.2
  have hRG := hR.2
  refine z_aload_n F dL_law_898 rfl (q := 2) rfl ?_
  have hIp := hI
  refine zl_i (rest := []) F (k_X11_sides l M ⟨hI, hW⟩) cs_L_190 (T := TX11) (N := 14) (ci := 11) rfl gs_0 ⟨Nat.le_of_ble_eq_true rfl, Nat.le_of_ble_eq_true rfl⟩ ⟨show _ ≤ 601024 by omega, show _ ≤ 7293034 by omega⟩ rfl rfl rfl (Nat.le_of_ble_eq_true rfl) dL_law_899 (fun v1 M2 rv1 hI p3 => ?_)
  obtain ⟨hI, hW⟩ := hI
  obtain ⟨⟨av1, bv1⟩, rfl⟩ := p3
  refine z_pop F dL_law_902 rfl ?_
  refine z_aload_n F dL_law_903 rfl (q := 3) rfl ?_
  have hIp := hI
  refine zl_i (rest := []) F (k_X12_sides l M ⟨hI, hW⟩) cs_L_193 (T := TX12) (N := 44) (ci := 12) rfl gs_131 ⟨Nat.le_of_ble_eq_true rfl, Nat.le_of_ble_eq_true rfl⟩ ⟨show _ ≤ 601024 by omega, show _ ≤ 7293034 by omega⟩ rfl rfl rfl (Nat.le_of_ble_eq_true rfl) dL_law_904 (fun v4 M5 rv4 hI p6 => ?_)
  obtain ⟨hI, hW⟩ := hI
  obtain ⟨⟨av4, bv4⟩, fp6⟩ := p6
  have tM5_0_1 : M5 0 1 = M 0 1 := fp6.at (by decide)
  have tM5_131_6 : M5 131 6 = M 131 6 := fp6.t6 (by decide)
  have hRG : RlG M5 := rg_fr hIp fp6 (by unfold No5; decide) (by unfold NoI No5; decide) (by unfold NoG; decide) hRG
  have hRT : RlT M5 := rl_fr fp6 (by decide) hRT
  have hRS : RlS M5 := rs_fr hIp fp6 (by decide) (by decide) (by decide) (by unfold No5; decide) (by unfold NoI No5; decide) hRS
  refine z_pop F dL_law_907 rfl ?_
  refine z_goto (tgt := 1691) F dL_law_908 (by decide +kernel) ?_
  refine z_iincN F dL_law_1691 (q := 0) rfl (by decide) (fun w e => ?_)
  subst e
  refine z_eq (ls' := [(4, ii (y + 6)), (0, .ref b), (1, .ref (ad 0)), (2, .ref (ad 131)), (3, .ref (ad 151))]) rfl rfl rfl ?_
  refine z_goto (tgt := 23) F dL_law_1694 (by decide +kernel) ?_
  refine z_loc [0, 1, 2, 3, 4] (ls' := [(4, ii (y + 6)), (0, .ref b), (1, .ref (ad 0)), (2, .ref (ad 131)), (3, .ref (ad 151))]) rfl ?_
  refine z_wide (n1 := nk + 6) (s1 := sk + 36) (by omega) (by omega) ?_
  exact ih _ ⟨hI, hW⟩ ⟨⟨hRT, hRS⟩, hRG⟩
set_option maxRecDepth 4000 in
theorem law_c19 {p : Program} {l : Launch} {e : Env} {s : State} {m : MethodId} {below : List Frame} {meth : Method} {c : Code} {b L : Nat} {xs : Nat → Int32} {D : va_G} {cy : Nat → ClassId} {ad : Nat → Nat} {A : Nat → Prop} (hlT : l.stackTraces = false) (F : FxM D cy ad p m c cL_law 8 s #[Value.ref b] RL A) (hX : va_X b L xs s s.heap) (hbl : b < s.heap.size) (hbA : ¬ A b) (hL : L ≤ 3072) (y : Int) (hy0 : 0 ≤ y) (hy1 : y + 6 ≤ (L : Int)) (nk sk : Nat) (hnk : nk ≤ 9000 ∧ sk ≤ 90000) (M : Mem) (hJ : Iw M) (hR : RlD M ∧ RlG M) (ih : ∀ M' : Mem, Iw M' → (RlD M' ∧ RlG M') → Z D cy ad p l e room_1 s m #[Value.ref b] below meth c A 8 (nk + 6) (sk + 36) (lw_Z below #[Value.ref b] s) 23 [(4, ii (y + 6)), (0, .ref b), (1, .ref (ad 0)), (2, .ref (ad 131)), (3, .ref (ad 151))] [] M') : Z D cy ad p l e room_1 s m #[Value.ref b] below meth c A 8 nk sk (lw_Z below #[Value.ref b] s) 911 [(4, ii y), (0, .ref b), (1, .ref (ad 0)), (2, .ref (ad 131)), (3, .ref (ad 151))] [] M := by
  obtain ⟨hI, hW⟩ := hJ
  have hRT := hR.1.1
  have hRS := hR.1.2
  have hRG := hR.2
  refine z_aload_n F dL_law_911 rfl (q := 2) rfl ?_
  have hIp := hI
  refine zl_i (rest := []) F (k_X11_placings l M ⟨hI, hW⟩) cs_L_194 (T := TX11) (N := 14) (ci := 11) rfl gs_0 ⟨Nat.le_of_ble_eq_true rfl, Nat.le_of_ble_eq_true rfl⟩ ⟨show _ ≤ 601024 by omega, show _ ≤ 7293034 by omega⟩ rfl rfl rfl (Nat.le_of_ble_eq_true rfl) dL_law_912 (fun v1 M2 rv1 hI p3 => ?_)
  obtain ⟨hI, hW⟩ := hI
  obtain ⟨⟨av1, bv1⟩, fp3⟩ := p3
  have tM2_0_1 : M2 0 1 = M 0 1 := fp3.at (by decide)
  have tM2_131_6 : M2 131 6 = M 131 6 := fp3.at (by decide)
  have hRG : RlG M2 := rg_fr hIp fp3 (by unfold No5; decide) (by unfold NoI No5; decide) (by unfold NoG; decide) hRG
  have hRT : RlT M2 := rl_fr fp3 (by decide) hRT
  have hRS : RlS M2 := rs_fr hIp fp3 (by decide) (by decide) (by decide) (by unfold No5; decide) (by unfold NoI No5; decide) hRS
  refine z_pop F dL_law_915 rfl ?_
  refine z_aload_n F dL_law_916 rfl (q := 3) rfl ?_
  have hIp := hI
  refine zl_i (rest := []) F (k_X12_placings l M2 ⟨hI, hW⟩) cs_L_197 (T := TX12) (N := 44) (ci := 12) rfl gs_131 ⟨Nat.le_of_ble_eq_true rfl, Nat.le_of_ble_eq_true rfl⟩ ⟨show _ ≤ 601024 by omega, show _ ≤ 7293034 by omega⟩ rfl rfl rfl (Nat.le_of_ble_eq_true rfl) dL_law_917 (fun v4 M5 rv4 hI p6 => ?_)
  obtain ⟨hI, hW⟩ := hI
  obtain ⟨⟨av4, bv4⟩, fp6⟩ := p6
  have tM5_0_1 : M5 0 1 = M2 0 1 := fp6.at (by decide)
  have tM5_131_6 : M5 131 6 = M2 131 6 := fp6.t6 (by decide)
  have hRG : RlG M5 := rg_fr hIp fp6 (by unfold No5; decide) (by unfold NoI No5; decide) (by unfold NoG; decide) hRG
  have hRT : RlT M5 := rl_fr fp6 (by decide) hRT
  have hRS : RlS M5 := rs_fr hIp fp6 (by decide) (by decide) (by decide) (by unfold No5; decide) (by unfold NoI No5; decide) hRS
  refine z_pop F dL_law_920 rfl ?_
  refine z_goto (tgt := 1691) F dL_law_921 (by decide +kernel) ?_
  refine z_iincN F dL_law_1691 (q := 0) rfl (by decide) (fun w e => ?_)
  subst e
  refine z_eq (ls' := [(4, ii (y + 6)), (0, .ref b), (1, .ref (ad 0)), (2, .ref (ad 131)), (3, .ref (ad 151))]) rfl rfl rfl ?_
  refine z_goto (tgt := 23) F dL_law_1694 (by decide +kernel) ?_
  refine z_loc [0, 1, 2, 3, 4] (ls' := [(4, ii (y + 6)), (0, .ref b), (1, .ref (ad 0)), (2, .ref (ad 131)), (3, .ref (ad 151))]) rfl ?_
  refine z_wide (n1 := nk + 6) (s1 := sk + 36) (by omega) (by omega) ?_
  exact ih _ ⟨hI, hW⟩ ⟨⟨hRT, hRS⟩, hRG⟩
set_option maxRecDepth 4000 in
theorem law_c20 {p : Program} {l : Launch} {e : Env} {s : State} {m : MethodId} {below : List Frame} {meth : Method} {c : Code} {b L : Nat} {xs : Nat → Int32} {D : va_G} {cy : Nat → ClassId} {ad : Nat → Nat} {A : Nat → Prop} (hlT : l.stackTraces = false) (F : FxM D cy ad p m c cL_law 8 s #[Value.ref b] RL A) (hX : va_X b L xs s s.heap) (hbl : b < s.heap.size) (hbA : ¬ A b) (hL : L ≤ 3072) (y : Int) (hy0 : 0 ≤ y) (hy1 : y + 6 ≤ (L : Int)) (nk sk : Nat) (hnk : nk ≤ 9000 ∧ sk ≤ 90000) (M : Mem) (hJ : Iw M) (hR : RlD M ∧ RlG M) (ih : ∀ M' : Mem, Iw M' → (RlD M' ∧ RlG M') → Z D cy ad p l e room_1 s m #[Value.ref b] below meth c A 8 (nk + 6) (sk + 36) (lw_Z below #[Value.ref b] s) 23 [(4, ii (y + 6)), (0, .ref b), (1, .ref (ad 0)), (2, .ref (ad 131)), (3, .ref (ad 151))] [] M') : Z D cy ad p l e room_1 s m #[Value.ref b] below meth c A 8 nk sk (lw_Z below #[Value.ref b] s) 924 [(4, ii y), (0, .ref b), (1, .ref (ad 0)), (2, .ref (ad 131)), (3, .ref (ad 151))] [] M := by
  obtain ⟨hI, hW⟩ := hJ
  have hRT := hR.1.1
  have hRS := hR.1.2
  have hRG := hR.2
  refine z_aload_n F dL_law_924 rfl (q := 2) rfl ?_
  refine z_aload_n F dL_law_925 rfl (q := 1) rfl ?_
  refine z_iload F dL_law_926 (q := 0) rfl ?_
  refine z_iconst F dL_law_928 ?_
  refine z_iadd F dL_law_929 ?_
  refine z_sld F hX hbl hbA hL (by omega) (by omega) dL_law_930 (fun v1 ev1 rv1 => ?_)
  refine z_aload_n F dL_law_931 rfl (q := 1) rfl ?_
  refine z_iload F dL_law_932 (q := 0) rfl ?_
  refine z_iconst F dL_law_934 ?_
  refine z_iadd F dL_law_935 ?_
  refine z_sld F hX hbl hbA hL (by omega) (by omega) dL_law_936 (fun v2 ev2 rv2 => ?_)
  refine z_aload_n F dL_law_937 rfl (q := 4) rfl ?_
  have hIp := hI
  refine zh_i (rest := []) F (k_L_placing l hlT M ⟨hI, hW⟩ v1 (by omega) (by omega) v2 (by omega) (by omega)) cs_L_198 ⟨Nat.le_of_ble_eq_true rfl, Nat.le_of_ble_eq_true rfl⟩ ⟨show _ ≤ 601024 by omega, show _ ≤ 7293034 by omega⟩ rfl rfl rfl (Nat.le_of_ble_eq_true rfl) dL_law_938 (fun v3 M4 rv3 hI p5 => ?_)
  obtain ⟨hI, hW⟩ := hI
  obtain ⟨fp5, xp5⟩ := p5
  have tM4_0_1 : M4 0 1 = M 0 1 := fp5.at (by decide)
  have tM4_131_6 : M4 131 6 = M 131 6 := fp5.at (by decide)
  have hRG : RlG M4 := rg_fr hIp fp5 (by unfold No5; decide) (by unfold NoI No5; decide) (by unfold NoG; decide) hRG
  have hRT : RlT M4 := rl_fr fp5 (by decide) hRT
  have hRS : RlS M4 := rs_fr hIp fp5 (by decide) (by decide) (by decide) (by unfold No5; decide) (by unfold NoI No5; decide) hRS
  refine z_istore F dL_law_941 (by decide) (ls' := [(5, ii v3), (4, ii y), (0, .ref b), (1, .ref (ad 0)), (2, .ref (ad 131)), (3, .ref (ad 151))]) rfl ?_
  refine z_aload_n F dL_law_943 rfl (q := 4) rfl ?_
  refine z_aload_n F dL_law_944 rfl (q := 2) rfl ?_
  refine z_iload F dL_law_945 (q := 1) rfl ?_
  refine z_iconst F dL_law_947 ?_
  refine z_iadd F dL_law_948 ?_
  refine z_sld F hX hbl hbA hL (by omega) (by omega) dL_law_949 (fun v6 ev6 rv6 => ?_)
  have zv6 : v1 = v6 := ev1.trans ev6.symm
  subst zv6
  refine z_aload_n F dL_law_950 rfl (q := 2) rfl ?_
  refine z_iload F dL_law_951 (q := 1) rfl ?_
  refine z_iconst F dL_law_953 ?_
  refine z_iadd F dL_law_954 ?_
  refine z_sld F hX hbl hbA hL (by omega) (by omega) dL_law_955 (fun v7 ev7 rv7 => ?_)
  have zv7 : v2 = v7 := ev2.trans ev7.symm
  subst zv7
  have hIp := hI
  refine zl_i (rest := []) F (k_X12_placing l M4 ⟨hI, hW⟩ v1 (by omega) (by omega) v2 (by omega) (by omega)) cs_L_200 (T := TX12) (N := 44) (ci := 12) rfl gs_131 ⟨Nat.le_of_ble_eq_true rfl, Nat.le_of_ble_eq_true rfl⟩ ⟨show _ ≤ 601024 by omega, show _ ≤ 7293034 by omega⟩ rfl rfl rfl (Nat.le_of_ble_eq_true rfl) dL_law_956 (fun v8 M9 rv8 hI p10 => ?_)
  obtain ⟨hI, hW⟩ := hI
  obtain ⟨⟨av8, bv8⟩, fp10⟩ := p10
  have tM9_0_1 : M9 0 1 = M4 0 1 := fp10.at (by decide)
  have tM9_131_6 : M9 131 6 = M4 131 6 := fp10.t6 (by decide)
  have hRG : RlG M9 := rg_fr hIp fp10 (by unfold No5; decide) (by unfold NoI No5; decide) (by unfold NoG; decide) hRG
  have hRT : RlT M9 := rl_fr fp10 (by decide) hRT
  have hRS : RlS M9 := rs_fr hIp fp10 (by decide) (by decide) (by decide) (by unfold No5; decide) (by unfold NoI No5; decide) hRS
  refine z_istore F dL_law_959 (by decide) (ls' := [(6, ii v8), (5, ii v3), (4, ii y), (0, .ref b), (1, .ref (ad 0)), (2, .ref (ad 131)), (3, .ref (ad 151))]) rfl ?_
  refine z_goto (tgt := 1691) F dL_law_961 (by decide +kernel) ?_
  refine z_iincN F dL_law_1691 (q := 2) rfl (by decide) (fun w e => ?_)
  subst e
  refine z_eq (ls' := [(4, ii (y + 6)), (6, ii v8), (5, ii v3), (0, .ref b), (1, .ref (ad 0)), (2, .ref (ad 131)), (3, .ref (ad 151))]) rfl rfl rfl ?_
  refine z_goto (tgt := 23) F dL_law_1694 (by decide +kernel) ?_
  refine z_loc [0, 3, 4, 5, 6] (ls' := [(4, ii (y + 6)), (0, .ref b), (1, .ref (ad 0)), (2, .ref (ad 131)), (3, .ref (ad 151))]) rfl ?_
  refine z_wide (n1 := nk + 6) (s1 := sk + 36) (by omega) (by omega) ?_
  exact ih _ ⟨hI, hW⟩ ⟨⟨hRT, hRS⟩, hRG⟩
set_option maxRecDepth 4000 in
theorem law_c21 {p : Program} {l : Launch} {e : Env} {s : State} {m : MethodId} {below : List Frame} {meth : Method} {c : Code} {b L : Nat} {xs : Nat → Int32} {D : va_G} {cy : Nat → ClassId} {ad : Nat → Nat} {A : Nat → Prop} (hlT : l.stackTraces = false) (F : FxM D cy ad p m c cL_law 8 s #[Value.ref b] RL A) (hX : va_X b L xs s s.heap) (hbl : b < s.heap.size) (hbA : ¬ A b) (hL : L ≤ 3072) (y : Int) (hy0 : 0 ≤ y) (hy1 : y + 6 ≤ (L : Int)) (nk sk : Nat) (hnk : nk ≤ 9000 ∧ sk ≤ 90000) (M : Mem) (hJ : Iw M) (hR : RlD M ∧ RlG M) (ih : ∀ M' : Mem, Iw M' → (RlD M' ∧ RlG M') → Z D cy ad p l e room_1 s m #[Value.ref b] below meth c A 8 (nk + 6) (sk + 36) (lw_Z below #[Value.ref b] s) 23 [(4, ii (y + 6)), (0, .ref b), (1, .ref (ad 0)), (2, .ref (ad 131)), (3, .ref (ad 151))] [] M') : Z D cy ad p l e room_1 s m #[Value.ref b] below meth c A 8 nk sk (lw_Z below #[Value.ref b] s) 964 [(4, ii y), (0, .ref b), (1, .ref (ad 0)), (2, .ref (ad 131)), (3, .ref (ad 151))] [] M := by
  obtain ⟨hI, hW⟩ := hJ
  have hRT := hR.1.1
  have hRS := hR.1.2
  have hRG := hR.2
  refine z_aload_n F dL_law_964 rfl (q := 2) rfl ?_
  refine z_aload_n F dL_law_965 rfl (q := 1) rfl ?_
  refine z_iload F dL_law_966 (q := 0) rfl ?_
  refine z_iconst F dL_law_968 ?_
  refine z_iadd F dL_law_969 ?_
  refine z_sld F hX hbl hbA hL (by omega) (by omega) dL_law_970 (fun v1 ev1 rv1 => ?_)
  refine z_aload_n F dL_law_971 rfl (q := 4) rfl ?_
  have hIp := hI
  refine zh_i (rest := []) F (k_L_mending l hlT M ⟨hI, hW⟩ v1 (by omega) (by omega)) cs_L_201 ⟨Nat.le_of_ble_eq_true rfl, Nat.le_of_ble_eq_true rfl⟩ ⟨show _ ≤ 601024 by omega, show _ ≤ 7293034 by omega⟩ rfl rfl rfl (Nat.le_of_ble_eq_true rfl) dL_law_972 (fun v2 M3 rv2 hI p4 => ?_)
  obtain ⟨hI, hW⟩ := hI
  obtain ⟨fp4, xp4⟩ := p4
  have tM3_0_1 : M3 0 1 = M 0 1 := fp4.at (by decide)
  have tM3_131_6 : M3 131 6 = M 131 6 := fp4.at (by decide)
  have hRG : RlG M3 := rg_fr hIp fp4 (by unfold No5; decide) (by unfold NoI No5; decide) (by unfold NoG; decide) hRG
  have hRT : RlT M3 := rl_fr fp4 (by decide) hRT
  have hRS : RlS M3 := rs_fr hIp fp4 (by decide) (by decide) (by decide) (by unfold No5; decide) (by unfold NoI No5; decide) hRS
  refine z_istore F dL_law_975 (by decide) (ls' := [(5, ii v2), (4, ii y), (0, .ref b), (1, .ref (ad 0)), (2, .ref (ad 131)), (3, .ref (ad 151))]) rfl ?_
  refine z_aload_n F dL_law_977 rfl (q := 4) rfl ?_
  refine z_aload_n F dL_law_978 rfl (q := 2) rfl ?_
  refine z_iload F dL_law_979 (q := 1) rfl ?_
  refine z_iconst F dL_law_981 ?_
  refine z_iadd F dL_law_982 ?_
  refine z_sld F hX hbl hbA hL (by omega) (by omega) dL_law_983 (fun v5 ev5 rv5 => ?_)
  have zv5 : v1 = v5 := ev1.trans ev5.symm
  subst zv5
  have hIp := hI
  refine zl_i (rest := []) F (k_X12_mending l M3 ⟨hI, hW⟩ v1 (by omega) (by omega)) cs_L_203 (T := TX12) (N := 44) (ci := 12) rfl gs_131 ⟨Nat.le_of_ble_eq_true rfl, Nat.le_of_ble_eq_true rfl⟩ ⟨show _ ≤ 601024 by omega, show _ ≤ 7293034 by omega⟩ rfl rfl rfl (Nat.le_of_ble_eq_true rfl) dL_law_984 (fun v6 M7 rv6 hI p8 => ?_)
  obtain ⟨hI, hW⟩ := hI
  obtain ⟨⟨av6, bv6⟩, fp8⟩ := p8
  have tM7_0_1 : M7 0 1 = M3 0 1 := fp8.at (by decide)
  have tM7_131_6 : M7 131 6 = M3 131 6 := fp8.t6 (by decide)
  have hRG : RlG M7 := rg_fr hIp fp8 (by unfold No5; decide) (by unfold NoI No5; decide) (by unfold NoG; decide) hRG
  have hRT : RlT M7 := rl_fr fp8 (by decide) hRT
  have hRS : RlS M7 := rs_fr hIp fp8 (by decide) (by decide) (by decide) (by unfold No5; decide) (by unfold NoI No5; decide) hRS
  refine z_istore F dL_law_987 (by decide) (ls' := [(6, ii v6), (5, ii v2), (4, ii y), (0, .ref b), (1, .ref (ad 0)), (2, .ref (ad 131)), (3, .ref (ad 151))]) rfl ?_
  refine z_goto (tgt := 1691) F dL_law_989 (by decide +kernel) ?_
  refine z_iincN F dL_law_1691 (q := 2) rfl (by decide) (fun w e => ?_)
  subst e
  refine z_eq (ls' := [(4, ii (y + 6)), (6, ii v6), (5, ii v2), (0, .ref b), (1, .ref (ad 0)), (2, .ref (ad 131)), (3, .ref (ad 151))]) rfl rfl rfl ?_
  refine z_goto (tgt := 23) F dL_law_1694 (by decide +kernel) ?_
  refine z_loc [0, 3, 4, 5, 6] (ls' := [(4, ii (y + 6)), (0, .ref b), (1, .ref (ad 0)), (2, .ref (ad 131)), (3, .ref (ad 151))]) rfl ?_
  refine z_wide (n1 := nk + 6) (s1 := sk + 36) (by omega) (by omega) ?_
  exact ih _ ⟨hI, hW⟩ ⟨⟨hRT, hRS⟩, hRG⟩
set_option maxRecDepth 4000 in
theorem law_c22 {p : Program} {l : Launch} {e : Env} {s : State} {m : MethodId} {below : List Frame} {meth : Method} {c : Code} {b L : Nat} {xs : Nat → Int32} {D : va_G} {cy : Nat → ClassId} {ad : Nat → Nat} {A : Nat → Prop} (hlT : l.stackTraces = false) (F : FxM D cy ad p m c cL_law 8 s #[Value.ref b] RL A) (hX : va_X b L xs s s.heap) (hbl : b < s.heap.size) (hbA : ¬ A b) (hL : L ≤ 3072) (y : Int) (hy0 : 0 ≤ y) (hy1 : y + 6 ≤ (L : Int)) (nk sk : Nat) (hnk : nk ≤ 9000 ∧ sk ≤ 90000) (M : Mem) (hJ : Iw M) (hR : RlD M ∧ RlG M) (ih : ∀ M' : Mem, Iw M' → (RlD M' ∧ RlG M') → Z D cy ad p l e room_1 s m #[Value.ref b] below meth c A 8 (nk + 6) (sk + 36) (lw_Z below #[Value.ref b] s) 23 [(4, ii (y + 6)), (0, .ref b), (1, .ref (ad 0)), (2, .ref (ad 131)), (3, .ref (ad 151))] [] M') : Z D cy ad p l e room_1 s m #[Value.ref b] below meth c A 8 nk sk (lw_Z below #[Value.ref b] s) 992 [(4, ii y), (0, .ref b), (1, .ref (ad 0)), (2, .ref (ad 131)), (3, .ref (ad 151))] [] M := by
  obtain ⟨hI, hW⟩ := hJ
  have hRT := hR.1.1
  have hRS := hR.1.2
  have hRG := hR.2
  refine z_aload_n F dL_law_992 rfl (q := 2) rfl ?_
  refine z_aload_n F dL_law_993 rfl (q := 4) rfl ?_
  have hIp := hI
  refine zh_i (rest := []) F (k_L_mend l hlT M ⟨hI, hW⟩) cs_L_204 ⟨Nat.le_of_ble_eq_true rfl, Nat.le_of_ble_eq_true rfl⟩ ⟨show _ ≤ 601024 by omega, show _ ≤ 7293034 by omega⟩ rfl rfl rfl (Nat.le_of_ble_eq_true rfl) dL_law_994 (fun v1 M2 rv1 hI p3 => ?_)
  obtain ⟨hI, hW⟩ := hI
  obtain ⟨fp3, xp3⟩ := p3
  have tM2_0_1 : M2 0 1 = M 0 1 := fp3.at (by decide)
  have tM2_131_6 : M2 131 6 = M 131 6 := fp3.at (by decide)
  have hRG : RlG M2 := rg_fr hIp fp3 (by unfold No5; decide) (by unfold NoI No5; decide) (by unfold NoG; decide) hRG
  have hRT : RlT M2 := rl_fr fp3 (by decide) hRT
  have hRS : RlS M2 := rs_fr hIp fp3 (by decide) (by decide) (by decide) (by unfold No5; decide) (by unfold NoI No5; decide) hRS
  refine z_istore F dL_law_997 (by decide) (ls' := [(5, ii v1), (4, ii y), (0, .ref b), (1, .ref (ad 0)), (2, .ref (ad 131)), (3, .ref (ad 151))]) rfl ?_
  refine z_aload_n F dL_law_999 rfl (q := 4) rfl ?_
  have hIp := hI
  refine zl_i (rest := []) F (k_X12_mend l M2 ⟨hI, hW⟩) cs_L_207 (T := TX12) (N := 44) (ci := 12) rfl gs_131 ⟨Nat.le_of_ble_eq_true rfl, Nat.le_of_ble_eq_true rfl⟩ ⟨show _ ≤ 601024 by omega, show _ ≤ 7293034 by omega⟩ rfl rfl rfl (Nat.le_of_ble_eq_true rfl) dL_law_1000 (fun v4 M5 rv4 hI p6 => ?_)
  obtain ⟨hI, hW⟩ := hI
  obtain ⟨⟨av4, bv4⟩, fp6⟩ := p6
  have tM5_0_1 : M5 0 1 = M2 0 1 := fp6.at (by decide)
  have tM5_131_6 : M5 131 6 = M2 131 6 := fp6.t6 (by decide)
  have hRG : RlG M5 := rg_fr hIp fp6 (by unfold No5; decide) (by unfold NoI No5; decide) (by unfold NoG; decide) hRG
  have hRT : RlT M5 := rl_fr fp6 (by decide) hRT
  have hRS : RlS M5 := rs_fr hIp fp6 (by decide) (by decide) (by decide) (by unfold No5; decide) (by unfold NoI No5; decide) hRS
  refine z_istore F dL_law_1003 (by decide) (ls' := [(6, ii v4), (5, ii v1), (4, ii y), (0, .ref b), (1, .ref (ad 0)), (2, .ref (ad 131)), (3, .ref (ad 151))]) rfl ?_
  refine z_goto (tgt := 1691) F dL_law_1005 (by decide +kernel) ?_
  refine z_iincN F dL_law_1691 (q := 2) rfl (by decide) (fun w e => ?_)
  subst e
  refine z_eq (ls' := [(4, ii (y + 6)), (6, ii v4), (5, ii v1), (0, .ref b), (1, .ref (ad 0)), (2, .ref (ad 131)), (3, .ref (ad 151))]) rfl rfl rfl ?_
  refine z_goto (tgt := 23) F dL_law_1694 (by decide +kernel) ?_
  refine z_loc [0, 3, 4, 5, 6] (ls' := [(4, ii (y + 6)), (0, .ref b), (1, .ref (ad 0)), (2, .ref (ad 131)), (3, .ref (ad 151))]) rfl ?_
  refine z_wide (n1 := nk + 6) (s1 := sk + 36) (by omega) (by omega) ?_
  exact ih _ ⟨hI, hW⟩ ⟨⟨hRT, hRS⟩, hRG⟩
set_option maxRecDepth 4000 in
theorem law_c23 {p : Program} {l : Launch} {e : Env} {s : State} {m : MethodId} {below : List Frame} {meth : Method} {c : Code} {b L : Nat} {xs : Nat → Int32} {D : va_G} {cy : Nat → ClassId} {ad : Nat → Nat} {A : Nat → Prop} (hlT : l.stackTraces = false) (F : FxM D cy ad p m c cL_law 8 s #[Value.ref b] RL A) (hX : va_X b L xs s s.heap) (hbl : b < s.heap.size) (hbA : ¬ A b) (hL : L ≤ 3072) (y : Int) (hy0 : 0 ≤ y) (hy1 : y + 6 ≤ (L : Int)) (nk sk : Nat) (hnk : nk ≤ 9000 ∧ sk ≤ 90000) (M : Mem) (hJ : Iw M) (hR : RlD M ∧ RlG M) (ih : ∀ M' : Mem, Iw M' → (RlD M' ∧ RlG M') → Z D cy ad p l e room_1 s m #[Value.ref b] below meth c A 8 (nk + 6) (sk + 36) (lw_Z below #[Value.ref b] s) 23 [(4, ii (y + 6)), (0, .ref b), (1, .ref (ad 0)), (2, .ref (ad 131)), (3, .ref (ad 151))] [] M') : Z D cy ad p l e room_1 s m #[Value.ref b] below meth c A 8 nk sk (lw_Z below #[Value.ref b] s) 1008 [(4, ii y), (0, .ref b), (1, .ref (ad 0)), (2, .ref (ad 131)), (3, .ref (ad 151))] [] M := by
  obtain ⟨hI, hW⟩ := hJ
  have hRT := hR.1.1
  have hRS := hR.1.2
  have hRG := hR.2
  refine z_aload_n F dL_law_1008 rfl (q := 2) rfl ?_
  refine z_aload_n F dL_law_1009 rfl (q := 1) rfl ?_
  refine z_iload F dL_law_1010 (q := 0) rfl ?_
  refine z_iconst F dL_law_1012 ?_
  refine z_iadd F dL_law_1013 ?_
  refine z_sld F hX hbl hbA hL (by omega) (by omega) dL_law_1014 (fun v1 ev1 rv1 => ?_)
  refine z_aload_n F dL_law_1015 rfl (q := 4) rfl ?_
  have hIp := hI
  refine zh_i (rest := []) F (k_L_flips l hlT M ⟨hI, hW⟩ v1 (by omega) (by omega)) cs_L_208 ⟨Nat.le_of_ble_eq_true rfl, Nat.le_of_ble_eq_true rfl⟩ ⟨show _ ≤ 601024 by omega, show _ ≤ 7293034 by omega⟩ rfl rfl rfl (Nat.le_of_ble_eq_true rfl) dL_law_1016 (fun v2 M3 rv2 hI p4 => ?_)
  obtain ⟨hI, hW⟩ := hI
  obtain ⟨fp4, xp4⟩ := p4
  have tM3_0_1 : M3 0 1 = M 0 1 := fp4.at (by decide)
  have tM3_131_6 : M3 131 6 = M 131 6 := fp4.at (by decide)
  have hRG : RlG M3 := rg_fr hIp fp4 (by unfold No5; decide) (by unfold NoI No5; decide) (by unfold NoG; decide) hRG
  have hRT : RlT M3 := rl_fr fp4 (by decide) hRT
  have hRS : RlS M3 := rs_fr hIp fp4 (by decide) (by decide) (by decide) (by unfold No5; decide) (by unfold NoI No5; decide) hRS
  refine z_istore F dL_law_1019 (by decide) (ls' := [(5, ii v2), (4, ii y), (0, .ref b), (1, .ref (ad 0)), (2, .ref (ad 131)), (3, .ref (ad 151))]) rfl ?_
  refine z_aload_n F dL_law_1021 rfl (q := 4) rfl ?_
  refine z_aload_n F dL_law_1022 rfl (q := 2) rfl ?_
  refine z_iload F dL_law_1023 (q := 1) rfl ?_
  refine z_iconst F dL_law_1025 ?_
  refine z_iadd F dL_law_1026 ?_
  refine z_sld F hX hbl hbA hL (by omega) (by omega) dL_law_1027 (fun v5 ev5 rv5 => ?_)
  have zv5 : v1 = v5 := ev1.trans ev5.symm
  subst zv5
  have hIp := hI
  refine zl_i (rest := []) F (k_X12_flips l M3 ⟨hI, hW⟩ v1 (by omega) (by omega)) cs_L_210 (T := TX12) (N := 44) (ci := 12) rfl gs_131 ⟨Nat.le_of_ble_eq_true rfl, Nat.le_of_ble_eq_true rfl⟩ ⟨show _ ≤ 601024 by omega, show _ ≤ 7293034 by omega⟩ rfl rfl rfl (Nat.le_of_ble_eq_true rfl) dL_law_1028 (fun v6 M7 rv6 hI p8 => ?_)
  obtain ⟨hI, hW⟩ := hI
  obtain ⟨⟨av6, bv6⟩, fp8⟩ := p8
  have tM7_0_1 : M7 0 1 = M3 0 1 := fp8.at (by decide)
  have tM7_131_6 : M7 131 6 = M3 131 6 := fp8.t6 (by decide)
  have hRG : RlG M7 := rg_fr hIp fp8 (by unfold No5; decide) (by unfold NoI No5; decide) (by unfold NoG; decide) hRG
  have hRT : RlT M7 := rl_fr fp8 (by decide) hRT
  have hRS : RlS M7 := rs_fr hIp fp8 (by decide) (by decide) (by decide) (by unfold No5; decide) (by unfold NoI No5; decide) hRS
  refine z_istore F dL_law_1031 (by decide) (ls' := [(6, ii v6), (5, ii v2), (4, ii y), (0, .ref b), (1, .ref (ad 0)), (2, .ref (ad 131)), (3, .ref (ad 151))]) rfl ?_
  refine z_goto (tgt := 1691) F dL_law_1033 (by decide +kernel) ?_
  refine z_iincN F dL_law_1691 (q := 2) rfl (by decide) (fun w e => ?_)
  subst e
  refine z_eq (ls' := [(4, ii (y + 6)), (6, ii v6), (5, ii v2), (0, .ref b), (1, .ref (ad 0)), (2, .ref (ad 131)), (3, .ref (ad 151))]) rfl rfl rfl ?_
  refine z_goto (tgt := 23) F dL_law_1694 (by decide +kernel) ?_
  refine z_loc [0, 3, 4, 5, 6] (ls' := [(4, ii (y + 6)), (0, .ref b), (1, .ref (ad 0)), (2, .ref (ad 131)), (3, .ref (ad 151))]) rfl ?_
  refine z_wide (n1 := nk + 6) (s1 := sk + 36) (by omega) (by omega) ?_
  exact ih _ ⟨hI, hW⟩ ⟨⟨hRT, hRS⟩, hRG⟩
set_option maxRecDepth 4000 in
theorem law_c24 {p : Program} {l : Launch} {e : Env} {s : State} {m : MethodId} {below : List Frame} {meth : Method} {c : Code} {b L : Nat} {xs : Nat → Int32} {D : va_G} {cy : Nat → ClassId} {ad : Nat → Nat} {A : Nat → Prop} (hlT : l.stackTraces = false) (F : FxM D cy ad p m c cL_law 8 s #[Value.ref b] RL A) (hX : va_X b L xs s s.heap) (hbl : b < s.heap.size) (hbA : ¬ A b) (hL : L ≤ 3072) (y : Int) (hy0 : 0 ≤ y) (hy1 : y + 6 ≤ (L : Int)) (nk sk : Nat) (hnk : nk ≤ 9000 ∧ sk ≤ 90000) (M : Mem) (hJ : Iw M) (hR : RlD M ∧ RlG M) (ih : ∀ M' : Mem, Iw M' → (RlD M' ∧ RlG M') → Z D cy ad p l e room_1 s m #[Value.ref b] below meth c A 8 (nk + 6) (sk + 36) (lw_Z below #[Value.ref b] s) 23 [(4, ii (y + 6)), (0, .ref b), (1, .ref (ad 0)), (2, .ref (ad 131)), (3, .ref (ad 151))] [] M') : Z D cy ad p l e room_1 s m #[Value.ref b] below meth c A 8 nk sk (lw_Z below #[Value.ref b] s) 1036 [(4, ii y), (0, .ref b), (1, .ref (ad 0)), (2, .ref (ad 131)), (3, .ref (ad 151))] [] M := by
  obtain ⟨hI, hW⟩ := hJ
  have hRT := hR.1.1
  have hRS := hR.1.2
  have hRG := hR.2
  refine z_aload_n F dL_law_1036 rfl (q := 2) rfl ?_
  refine z_aload_n F dL_law_1037 rfl (q := 1) rfl ?_
  refine z_iload F dL_law_1038 (q := 0) rfl ?_
  refine z_iconst F dL_law_1040 ?_
  refine z_iadd F dL_law_1041 ?_
  refine z_sld F hX hbl hbA hL (by omega) (by omega) dL_law_1042 (fun v1 ev1 rv1 => ?_)
  refine z_aload_n F dL_law_1043 rfl (q := 4) rfl ?_
  have hIp := hI
  refine zh_i (rest := []) F (k_L_wave l hlT M ⟨hI, hW⟩ v1 (by omega) (by omega)) cs_L_211 ⟨Nat.le_of_ble_eq_true rfl, Nat.le_of_ble_eq_true rfl⟩ ⟨show _ ≤ 601024 by omega, show _ ≤ 7293034 by omega⟩ rfl rfl rfl (Nat.le_of_ble_eq_true rfl) dL_law_1044 (fun v2 M3 rv2 hI p4 => ?_)
  obtain ⟨hI, hW⟩ := hI
  obtain ⟨fp4, xp4⟩ := p4
  have tM3_0_1 : M3 0 1 = M 0 1 := fp4.at (by decide)
  have tM3_131_6 : M3 131 6 = M 131 6 := fp4.at (by decide)
  have hRG : RlG M3 := rg_fr hIp fp4 (by unfold No5; decide) (by unfold NoI No5; decide) (by unfold NoG; decide) hRG
  have hRT : RlT M3 := rl_fr fp4 (by decide) hRT
  have hRS : RlS M3 := rs_fr hIp fp4 (by decide) (by decide) (by decide) (by unfold No5; decide) (by unfold NoI No5; decide) hRS
  refine z_istore F dL_law_1047 (by decide) (ls' := [(5, ii v2), (4, ii y), (0, .ref b), (1, .ref (ad 0)), (2, .ref (ad 131)), (3, .ref (ad 151))]) rfl ?_
  refine z_aload_n F dL_law_1049 rfl (q := 4) rfl ?_
  refine z_aload_n F dL_law_1050 rfl (q := 2) rfl ?_
  refine z_iload F dL_law_1051 (q := 1) rfl ?_
  refine z_iconst F dL_law_1053 ?_
  refine z_iadd F dL_law_1054 ?_
  refine z_sld F hX hbl hbA hL (by omega) (by omega) dL_law_1055 (fun v5 ev5 rv5 => ?_)
  have zv5 : v1 = v5 := ev1.trans ev5.symm
  subst zv5
  have hIp := hI
  refine zl_i (rest := []) F (k_X12_wave l M3 ⟨hI, hW⟩ v1 (by omega) (by omega)) cs_L_213 (T := TX12) (N := 44) (ci := 12) rfl gs_131 ⟨Nat.le_of_ble_eq_true rfl, Nat.le_of_ble_eq_true rfl⟩ ⟨show _ ≤ 601024 by omega, show _ ≤ 7293034 by omega⟩ rfl rfl rfl (Nat.le_of_ble_eq_true rfl) dL_law_1056 (fun v6 M7 rv6 hI p8 => ?_)
  obtain ⟨hI, hW⟩ := hI
  obtain ⟨⟨av6, bv6⟩, fp8⟩ := p8
  have tM7_0_1 : M7 0 1 = M3 0 1 := fp8.at (by decide)
  have tM7_131_6 : M7 131 6 = M3 131 6 := fp8.t6 (by decide)
  have hRG : RlG M7 := rg_fr hIp fp8 (by unfold No5; decide) (by unfold NoI No5; decide) (by unfold NoG; decide) hRG
  have hRT : RlT M7 := rl_fr fp8 (by decide) hRT
  have hRS : RlS M7 := rs_fr hIp fp8 (by decide) (by decide) (by decide) (by unfold No5; decide) (by unfold NoI No5; decide) hRS
  refine z_istore F dL_law_1059 (by decide) (ls' := [(6, ii v6), (5, ii v2), (4, ii y), (0, .ref b), (1, .ref (ad 0)), (2, .ref (ad 131)), (3, .ref (ad 151))]) rfl ?_
  refine z_goto (tgt := 1691) F dL_law_1061 (by decide +kernel) ?_
  refine z_iincN F dL_law_1691 (q := 2) rfl (by decide) (fun w e => ?_)
  subst e
  refine z_eq (ls' := [(4, ii (y + 6)), (6, ii v6), (5, ii v2), (0, .ref b), (1, .ref (ad 0)), (2, .ref (ad 131)), (3, .ref (ad 151))]) rfl rfl rfl ?_
  refine z_goto (tgt := 23) F dL_law_1694 (by decide +kernel) ?_
  refine z_loc [0, 3, 4, 5, 6] (ls' := [(4, ii (y + 6)), (0, .ref b), (1, .ref (ad 0)), (2, .ref (ad 131)), (3, .ref (ad 151))]) rfl ?_
  refine z_wide (n1 := nk + 6) (s1 := sk + 36) (by omega) (by omega) ?_
  exact ih _ ⟨hI, hW⟩ ⟨⟨hRT, hRS⟩, hRG⟩
set_option maxRecDepth 4000 in
theorem law_c25 {p : Program} {l : Launch} {e : Env} {s : State} {m : MethodId} {below : List Frame} {meth : Method} {c : Code} {b L : Nat} {xs : Nat → Int32} {D : va_G} {cy : Nat → ClassId} {ad : Nat → Nat} {A : Nat → Prop} (hlT : l.stackTraces = false) (F : FxM D cy ad p m c cL_law 8 s #[Value.ref b] RL A) (hX : va_X b L xs s s.heap) (hbl : b < s.heap.size) (hbA : ¬ A b) (hL : L ≤ 3072) (y : Int) (hy0 : 0 ≤ y) (hy1 : y + 6 ≤ (L : Int)) (nk sk : Nat) (hnk : nk ≤ 9000 ∧ sk ≤ 90000) (M : Mem) (hJ : Iw M) (hR : RlD M ∧ RlG M) (ih : ∀ M' : Mem, Iw M' → (RlD M' ∧ RlG M') → Z D cy ad p l e room_1 s m #[Value.ref b] below meth c A 8 (nk + 6) (sk + 36) (lw_Z below #[Value.ref b] s) 23 [(4, ii (y + 6)), (0, .ref b), (1, .ref (ad 0)), (2, .ref (ad 131)), (3, .ref (ad 151))] [] M') : Z D cy ad p l e room_1 s m #[Value.ref b] below meth c A 8 nk sk (lw_Z below #[Value.ref b] s) 1064 [(4, ii y), (0, .ref b), (1, .ref (ad 0)), (2, .ref (ad 131)), (3, .ref (ad 151))] [] M := by
  obtain ⟨hI, hW⟩ := hJ
  have hRT := hR.1.1
  have hRS := hR.1.2
  have hRG := hR.2
  refine z_aload_n F dL_law_1064 rfl (q := 2) rfl ?_
  have hIp := hI
  refine zl_i (rest := []) F (k_X11_goWave l M ⟨hI, hW⟩) cs_L_214 (T := TX11) (N := 14) (ci := 11) rfl gs_0 ⟨Nat.le_of_ble_eq_true rfl, Nat.le_of_ble_eq_true rfl⟩ ⟨show _ ≤ 601024 by omega, show _ ≤ 7293034 by omega⟩ rfl rfl rfl (Nat.le_of_ble_eq_true rfl) dL_law_1065 (fun v1 M2 rv1 hI p3 => ?_)
  obtain ⟨hI, hW⟩ := hI
  obtain ⟨⟨av1, bv1⟩, fp3⟩ := p3
  have tM2_0_1 : M2 0 1 = M 0 1 := fp3.at (by decide)
  have tM2_131_6 : M2 131 6 = M 131 6 := fp3.at (by decide)
  have hRG : RlG M2 := rg_fr hIp fp3 (by unfold No5; decide) (by unfold NoI No5; decide) (by unfold NoG; decide) hRG
  have hRT : RlT M2 := rl_fr fp3 (by decide) hRT
  have hRS : RlS M2 := rs_fr hIp fp3 (by decide) (by decide) (by decide) (by unfold No5; decide) (by unfold NoI No5; decide) hRS
  refine z_pop F dL_law_1068 rfl ?_
  refine z_aload_n F dL_law_1069 rfl (q := 3) rfl ?_
  have hIp := hI
  refine zl_i (rest := []) F (k_X12_goWave l M2 ⟨hI, hW⟩) cs_L_217 (T := TX12) (N := 44) (ci := 12) rfl gs_131 ⟨Nat.le_of_ble_eq_true rfl, Nat.le_of_ble_eq_true rfl⟩ ⟨show _ ≤ 601024 by omega, show _ ≤ 7293034 by omega⟩ rfl rfl rfl (Nat.le_of_ble_eq_true rfl) dL_law_1070 (fun v4 M5 rv4 hI p6 => ?_)
  obtain ⟨hI, hW⟩ := hI
  obtain ⟨⟨av4, bv4⟩, fp6⟩ := p6
  have tM5_0_1 : M5 0 1 = M2 0 1 := fp6.at (by decide)
  have tM5_131_6 : M5 131 6 = M2 131 6 := fp6.t6 (by decide)
  have hRG : RlG M5 := rg_fr hIp fp6 (by unfold No5; decide) (by unfold NoI No5; decide) (by unfold NoG; decide) hRG
  have hRT : RlT M5 := rl_fr fp6 (by decide) hRT
  have hRS : RlS M5 := rs_fr hIp fp6 (by decide) (by decide) (by decide) (by unfold No5; decide) (by unfold NoI No5; decide) hRS
  refine z_pop F dL_law_1073 rfl ?_
  refine z_goto (tgt := 1691) F dL_law_1074 (by decide +kernel) ?_
  refine z_iincN F dL_law_1691 (q := 0) rfl (by decide) (fun w e => ?_)
  subst e
  refine z_eq (ls' := [(4, ii (y + 6)), (0, .ref b), (1, .ref (ad 0)), (2, .ref (ad 131)), (3, .ref (ad 151))]) rfl rfl rfl ?_
  refine z_goto (tgt := 23) F dL_law_1694 (by decide +kernel) ?_
  refine z_loc [0, 1, 2, 3, 4] (ls' := [(4, ii (y + 6)), (0, .ref b), (1, .ref (ad 0)), (2, .ref (ad 131)), (3, .ref (ad 151))]) rfl ?_
  refine z_wide (n1 := nk + 6) (s1 := sk + 36) (by omega) (by omega) ?_
  exact ih _ ⟨hI, hW⟩ ⟨⟨hRT, hRS⟩, hRG⟩
set_option maxRecDepth 4000 in
theorem law_c26 {p : Program} {l : Launch} {e : Env} {s : State} {m : MethodId} {below : List Frame} {meth : Method} {c : Code} {b L : Nat} {xs : Nat → Int32} {D : va_G} {cy : Nat → ClassId} {ad : Nat → Nat} {A : Nat → Prop} (hlT : l.stackTraces = false) (F : FxM D cy ad p m c cL_law 8 s #[Value.ref b] RL A) (hX : va_X b L xs s s.heap) (hbl : b < s.heap.size) (hbA : ¬ A b) (hL : L ≤ 3072) (y : Int) (hy0 : 0 ≤ y) (hy1 : y + 6 ≤ (L : Int)) (nk sk : Nat) (hnk : nk ≤ 9000 ∧ sk ≤ 90000) (M : Mem) (hJ : Iw M) (hR : RlD M ∧ RlG M) (ih : ∀ M' : Mem, Iw M' → (RlD M' ∧ RlG M') → Z D cy ad p l e room_1 s m #[Value.ref b] below meth c A 8 (nk + 6) (sk + 36) (lw_Z below #[Value.ref b] s) 23 [(4, ii (y + 6)), (0, .ref b), (1, .ref (ad 0)), (2, .ref (ad 131)), (3, .ref (ad 151))] [] M') : Z D cy ad p l e room_1 s m #[Value.ref b] below meth c A 8 nk sk (lw_Z below #[Value.ref b] s) 1077 [(4, ii y), (0, .ref b), (1, .ref (ad 0)), (2, .ref (ad 131)), (3, .ref (ad 151))] [] M := by
  obtain ⟨hI, hW⟩ := hJ
  have hRT := hR.1.1
  have hRS := hR.1.2
  have hRG := hR.2
  refine z_aload_n F dL_law_1077 rfl (q := 2) rfl ?_
  refine z_aload_n F dL_law_1078 rfl (q := 1) rfl ?_
  refine z_iload F dL_law_1079 (q := 0) rfl ?_
  refine z_iconst F dL_law_1081 ?_
  refine z_iadd F dL_law_1082 ?_
  refine z_sld F hX hbl hbA hL (by omega) (by omega) dL_law_1083 (fun v1 ev1 rv1 => ?_)
  refine z_aload_n F dL_law_1084 rfl (q := 4) rfl ?_
  have hIp := hI
  refine zh_i (rest := []) F (k_L_calm l hlT M ⟨hI, hW⟩ v1 (by omega) (by omega)) cs_L_218 ⟨Nat.le_of_ble_eq_true rfl, Nat.le_of_ble_eq_true rfl⟩ ⟨show _ ≤ 601024 by omega, show _ ≤ 7293034 by omega⟩ rfl rfl rfl (Nat.le_of_ble_eq_true rfl) dL_law_1085 (fun v2 M3 rv2 hI p4 => ?_)
  obtain ⟨hI, hW⟩ := hI
  obtain ⟨fp4, xp4⟩ := p4
  have tM3_0_1 : M3 0 1 = M 0 1 := fp4.at (by decide)
  have tM3_131_6 : M3 131 6 = M 131 6 := fp4.at (by decide)
  have hRG : RlG M3 := rg_fr hIp fp4 (by unfold No5; decide) (by unfold NoI No5; decide) (by unfold NoG; decide) hRG
  have hRT : RlT M3 := rl_fr fp4 (by decide) hRT
  have hRS : RlS M3 := rs_fr hIp fp4 (by decide) (by decide) (by decide) (by unfold No5; decide) (by unfold NoI No5; decide) hRS
  refine z_istore F dL_law_1088 (by decide) (ls' := [(5, ii v2), (4, ii y), (0, .ref b), (1, .ref (ad 0)), (2, .ref (ad 131)), (3, .ref (ad 151))]) rfl ?_
  refine z_aload_n F dL_law_1090 rfl (q := 4) rfl ?_
  refine z_aload_n F dL_law_1091 rfl (q := 2) rfl ?_
  refine z_iload F dL_law_1092 (q := 1) rfl ?_
  refine z_iconst F dL_law_1094 ?_
  refine z_iadd F dL_law_1095 ?_
  refine z_sld F hX hbl hbA hL (by omega) (by omega) dL_law_1096 (fun v5 ev5 rv5 => ?_)
  have zv5 : v1 = v5 := ev1.trans ev5.symm
  subst zv5
  have hIp := hI
  refine zl_i (rest := []) F (k_X12_calm l M3 ⟨hI, hW⟩ v1 (by omega) (by omega)) cs_L_220 (T := TX12) (N := 44) (ci := 12) rfl gs_131 ⟨Nat.le_of_ble_eq_true rfl, Nat.le_of_ble_eq_true rfl⟩ ⟨show _ ≤ 601024 by omega, show _ ≤ 7293034 by omega⟩ rfl rfl rfl (Nat.le_of_ble_eq_true rfl) dL_law_1097 (fun v6 M7 rv6 hI p8 => ?_)
  obtain ⟨hI, hW⟩ := hI
  obtain ⟨⟨av6, bv6⟩, fp8⟩ := p8
  have tM7_0_1 : M7 0 1 = M3 0 1 := fp8.at (by decide)
  have tM7_131_6 : M7 131 6 = M3 131 6 := fp8.t6 (by decide)
  have hRG : RlG M7 := rg_fr hIp fp8 (by unfold No5; decide) (by unfold NoI No5; decide) (by unfold NoG; decide) hRG
  have hRT : RlT M7 := rl_fr fp8 (by decide) hRT
  have hRS : RlS M7 := rs_fr hIp fp8 (by decide) (by decide) (by decide) (by unfold No5; decide) (by unfold NoI No5; decide) hRS
  refine z_istore F dL_law_1100 (by decide) (ls' := [(6, ii v6), (5, ii v2), (4, ii y), (0, .ref b), (1, .ref (ad 0)), (2, .ref (ad 131)), (3, .ref (ad 151))]) rfl ?_
  refine z_goto (tgt := 1691) F dL_law_1102 (by decide +kernel) ?_
  refine z_iincN F dL_law_1691 (q := 2) rfl (by decide) (fun w e => ?_)
  subst e
  refine z_eq (ls' := [(4, ii (y + 6)), (6, ii v6), (5, ii v2), (0, .ref b), (1, .ref (ad 0)), (2, .ref (ad 131)), (3, .ref (ad 151))]) rfl rfl rfl ?_
  refine z_goto (tgt := 23) F dL_law_1694 (by decide +kernel) ?_
  refine z_loc [0, 3, 4, 5, 6] (ls' := [(4, ii (y + 6)), (0, .ref b), (1, .ref (ad 0)), (2, .ref (ad 131)), (3, .ref (ad 151))]) rfl ?_
  refine z_wide (n1 := nk + 6) (s1 := sk + 36) (by omega) (by omega) ?_
  exact ih _ ⟨hI, hW⟩ ⟨⟨hRT, hRS⟩, hRG⟩
set_option maxRecDepth 4000 in
theorem law_c27 {p : Program} {l : Launch} {e : Env} {s : State} {m : MethodId} {below : List Frame} {meth : Method} {c : Code} {b L : Nat} {xs : Nat → Int32} {D : va_G} {cy : Nat → ClassId} {ad : Nat → Nat} {A : Nat → Prop} (hlT : l.stackTraces = false) (F : FxM D cy ad p m c cL_law 8 s #[Value.ref b] RL A) (hX : va_X b L xs s s.heap) (hbl : b < s.heap.size) (hbA : ¬ A b) (hL : L ≤ 3072) (y : Int) (hy0 : 0 ≤ y) (hy1 : y + 6 ≤ (L : Int)) (nk sk : Nat) (hnk : nk ≤ 9000 ∧ sk ≤ 90000) (M : Mem) (hJ : Iw M) (hR : RlD M ∧ RlG M) (ih : ∀ M' : Mem, Iw M' → (RlD M' ∧ RlG M') → Z D cy ad p l e room_1 s m #[Value.ref b] below meth c A 8 (nk + 6) (sk + 36) (lw_Z below #[Value.ref b] s) 23 [(4, ii (y + 6)), (0, .ref b), (1, .ref (ad 0)), (2, .ref (ad 131)), (3, .ref (ad 151))] [] M') : Z D cy ad p l e room_1 s m #[Value.ref b] below meth c A 8 nk sk (lw_Z below #[Value.ref b] s) 1105 [(4, ii y), (0, .ref b), (1, .ref (ad 0)), (2, .ref (ad 131)), (3, .ref (ad 151))] [] M := by
  obtain ⟨hI, hW⟩ := hJ
  have hRT := hR.1.1
  have hRS := hR.1.2
  have hRG := hR.2
  refine z_aload_n F dL_law_1105 rfl (q := 2) rfl ?_
  refine z_aload_n F dL_law_1106 rfl (q := 1) rfl ?_
  refine z_iload F dL_law_1107 (q := 0) rfl ?_
  refine z_iconst F dL_law_1109 ?_
  refine z_iadd F dL_law_1110 ?_
  refine z_sld F hX hbl hbA hL (by omega) (by omega) dL_law_1111 (fun v1 ev1 rv1 => ?_)
  refine z_aload_n F dL_law_1112 rfl (q := 1) rfl ?_
  refine z_iload F dL_law_1113 (q := 0) rfl ?_
  refine z_iconst F dL_law_1115 ?_
  refine z_iadd F dL_law_1116 ?_
  refine z_sld F hX hbl hbA hL (by omega) (by omega) dL_law_1117 (fun v2 ev2 rv2 => ?_)
  refine z_aload_n F dL_law_1118 rfl (q := 4) rfl ?_
  have hIp := hI
  refine zh_i (rest := []) F (k_L_event l hlT M ⟨hI, hW⟩ v1 (by omega) (by omega) v2 (by omega) (by omega)) cs_L_221 ⟨Nat.le_of_ble_eq_true rfl, Nat.le_of_ble_eq_true rfl⟩ ⟨show _ ≤ 601024 by omega, show _ ≤ 7293034 by omega⟩ rfl rfl rfl (Nat.le_of_ble_eq_true rfl) dL_law_1119 (fun v3 M4 rv3 hI p5 => ?_)
  obtain ⟨hI, hW⟩ := hI
  obtain ⟨fp5, xp5⟩ := p5
  have tM4_0_1 : M4 0 1 = M 0 1 := fp5.at (by decide)
  have tM4_131_6 : M4 131 6 = M 131 6 := fp5.at (by decide)
  have hRG : RlG M4 := rg_fr hIp fp5 (by unfold No5; decide) (by unfold NoI No5; decide) (by unfold NoG; decide) hRG
  have hRT : RlT M4 := rl_fr fp5 (by decide) hRT
  have hRS : RlS M4 := rs_fr hIp fp5 (by decide) (by decide) (by decide) (by unfold No5; decide) (by unfold NoI No5; decide) hRS
  refine z_istore F dL_law_1122 (by decide) (ls' := [(5, ii v3), (4, ii y), (0, .ref b), (1, .ref (ad 0)), (2, .ref (ad 131)), (3, .ref (ad 151))]) rfl ?_
  refine z_aload_n F dL_law_1124 rfl (q := 4) rfl ?_
  refine z_aload_n F dL_law_1125 rfl (q := 2) rfl ?_
  refine z_iload F dL_law_1126 (q := 1) rfl ?_
  refine z_iconst F dL_law_1128 ?_
  refine z_iadd F dL_law_1129 ?_
  refine z_sld F hX hbl hbA hL (by omega) (by omega) dL_law_1130 (fun v6 ev6 rv6 => ?_)
  have zv6 : v1 = v6 := ev1.trans ev6.symm
  subst zv6
  refine z_aload_n F dL_law_1131 rfl (q := 2) rfl ?_
  refine z_iload F dL_law_1132 (q := 1) rfl ?_
  refine z_iconst F dL_law_1134 ?_
  refine z_iadd F dL_law_1135 ?_
  refine z_sld F hX hbl hbA hL (by omega) (by omega) dL_law_1136 (fun v7 ev7 rv7 => ?_)
  have zv7 : v2 = v7 := ev2.trans ev7.symm
  subst zv7
  have hIp := hI
  refine zl_i (rest := []) F (k_X12_event l M4 ⟨hI, hW⟩ v1 (by omega) (by omega) v2 (by omega) (by omega)) cs_L_223 (T := TX12) (N := 44) (ci := 12) rfl gs_131 ⟨Nat.le_of_ble_eq_true rfl, Nat.le_of_ble_eq_true rfl⟩ ⟨show _ ≤ 601024 by omega, show _ ≤ 7293034 by omega⟩ rfl rfl rfl (Nat.le_of_ble_eq_true rfl) dL_law_1137 (fun v8 M9 rv8 hI p10 => ?_)
  obtain ⟨hI, hW⟩ := hI
  obtain ⟨⟨av8, bv8⟩, fp10⟩ := p10
  have tM9_0_1 : M9 0 1 = M4 0 1 := fp10.at (by decide)
  have tM9_131_6 : M9 131 6 = M4 131 6 := fp10.t6 (by decide)
  have hRG : RlG M9 := rg_fr hIp fp10 (by unfold No5; decide) (by unfold NoI No5; decide) (by unfold NoG; decide) hRG
  have hRT : RlT M9 := rl_fr fp10 (by decide) hRT
  have hRS : RlS M9 := rs_fr hIp fp10 (by decide) (by decide) (by decide) (by unfold No5; decide) (by unfold NoI No5; decide) hRS
  refine z_istore F dL_law_1140 (by decide) (ls' := [(6, ii v8), (5, ii v3), (4, ii y), (0, .ref b), (1, .ref (ad 0)), (2, .ref (ad 131)), (3, .ref (ad 151))]) rfl ?_
  refine z_goto (tgt := 1691) F dL_law_1142 (by decide +kernel) ?_
  refine z_iincN F dL_law_1691 (q := 2) rfl (by decide) (fun w e => ?_)
  subst e
  refine z_eq (ls' := [(4, ii (y + 6)), (6, ii v8), (5, ii v3), (0, .ref b), (1, .ref (ad 0)), (2, .ref (ad 131)), (3, .ref (ad 151))]) rfl rfl rfl ?_
  refine z_goto (tgt := 23) F dL_law_1694 (by decide +kernel) ?_
  refine z_loc [0, 3, 4, 5, 6] (ls' := [(4, ii (y + 6)), (0, .ref b), (1, .ref (ad 0)), (2, .ref (ad 131)), (3, .ref (ad 151))]) rfl ?_
  refine z_wide (n1 := nk + 6) (s1 := sk + 36) (by omega) (by omega) ?_
  exact ih _ ⟨hI, hW⟩ ⟨⟨hRT, hRS⟩, hRG⟩
