theorem dL_law_745 : decode cL_law 745 = .ok (.if_icmp .ne 98, 3) := by decide +kernel
theorem dL_law_748 : decode cL_law 748 = .ok (.aload 7, 2) := by decide +kernel
theorem dL_law_750 : decode cL_law 750 = .ok (.iconst 0, 1) := by decide +kernel
theorem dL_law_751 : decode cL_law 751 = .ok (.invokevirtual 116, 3) := by decide +kernel
theorem dL_law_754 : decode cL_law 754 = .ok (.iload 6, 2) := by decide +kernel
theorem dL_law_756 : decode cL_law 756 = .ok (.iconst 1, 1) := by decide +kernel
theorem dL_law_757 : decode cL_law 757 = .ok (.iload 6, 2) := by decide +kernel
theorem dL_law_759 : decode cL_law 759 = .ok (.bipush 20, 2) := by decide +kernel
theorem dL_law_761 : decode cL_law 761 = .ok (.idiv, 1) := by decide +kernel
theorem dL_law_762 : decode cL_law 762 = .ok (.invokestatic 128, 3) := by decide +kernel
theorem dL_law_765 : decode cL_law 765 = .ok (.isub, 1) := by decide +kernel
theorem dL_law_766 : decode cL_law 766 = .ok (.if_icmp .ne 77, 3) := by decide +kernel
theorem dL_law_769 : decode cL_law 769 = .ok (.aload 7, 2) := by decide +kernel
theorem dL_law_771 : decode cL_law 771 = .ok (.iconst 0, 1) := by decide +kernel
theorem dL_law_772 : decode cL_law 772 = .ok (.invokevirtual 119, 3) := by decide +kernel
theorem dL_law_775 : decode cL_law 775 = .ok (.iconst 1, 1) := by decide +kernel
theorem dL_law_776 : decode cL_law 776 = .ok (.if_icmp .ne 67, 3) := by decide +kernel
theorem dL_law_779 : decode cL_law 779 = .ok (.aload 7, 2) := by decide +kernel
theorem dL_law_781 : decode cL_law 781 = .ok (.iconst 1, 1) := by decide +kernel
theorem dL_law_782 : decode cL_law 782 = .ok (.bipush 8, 2) := by decide +kernel
theorem dL_law_784 : decode cL_law 784 = .ok (.invokevirtual 93, 3) := by decide +kernel
theorem dL_law_787 : decode cL_law 787 = .ok (.bipush 8, 2) := by decide +kernel
theorem dL_law_789 : decode cL_law 789 = .ok (.if_icmp .ne 54, 3) := by decide +kernel
theorem dL_law_792 : decode cL_law 792 = .ok (.aload 7, 2) := by decide +kernel
theorem dL_law_794 : decode cL_law 794 = .ok (.iconst 1, 1) := by decide +kernel
theorem dL_law_795 : decode cL_law 795 = .ok (.bipush 9, 2) := by decide +kernel
theorem dL_law_797 : decode cL_law 797 = .ok (.invokevirtual 93, 3) := by decide +kernel
theorem dL_law_800 : decode cL_law 800 = .ok (.bipush 7, 2) := by decide +kernel
theorem dL_law_802 : decode cL_law 802 = .ok (.if_icmp .ne 41, 3) := by decide +kernel
theorem dL_law_805 : decode cL_law 805 = .ok (.aload 7, 2) := by decide +kernel
theorem dL_law_807 : decode cL_law 807 = .ok (.iconst 0, 1) := by decide +kernel
theorem dL_law_808 : decode cL_law 808 = .ok (.invokevirtual 232, 3) := by decide +kernel
theorem dL_law_811 : decode cL_law 811 = .ok (.ifCond .ne 32, 3) := by decide +kernel
theorem dL_law_814 : decode cL_law 814 = .ok (.aload 7, 2) := by decide +kernel
theorem dL_law_816 : decode cL_law 816 = .ok (.iconst 3, 1) := by decide +kernel
theorem dL_law_817 : decode cL_law 817 = .ok (.invokevirtual 232, 3) := by decide +kernel
theorem dL_law_820 : decode cL_law 820 = .ok (.iconst 3, 1) := by decide +kernel
theorem dL_law_821 : decode cL_law 821 = .ok (.if_icmp .ne 22, 3) := by decide +kernel
theorem dL_law_824 : decode cL_law 824 = .ok (.aload 7, 2) := by decide +kernel
theorem dL_law_826 : decode cL_law 826 = .ok (.iconst 2, 1) := by decide +kernel
theorem dL_law_827 : decode cL_law 827 = .ok (.invokevirtual 45, 3) := by decide +kernel
theorem dL_law_830 : decode cL_law 830 = .ok (.bipush 10, 2) := by decide +kernel
theorem dL_law_832 : decode cL_law 832 = .ok (.if_icmp .ne 11, 3) := by decide +kernel
theorem dL_law_835 : decode cL_law 835 = .ok (.aload 7, 2) := by decide +kernel
theorem dL_law_837 : decode cL_law 837 = .ok (.invokevirtual 190, 3) := by decide +kernel
theorem dL_law_840 : decode cL_law 840 = .ok (.ifCond .eq 5, 3) := by decide +kernel
theorem dL_law_843 : decode cL_law 843 = .ok (.iconst 0, 1) := by decide +kernel
theorem dL_law_844 : decode cL_law 844 = .ok (.ireturn, 1) := by decide +kernel
theorem dL_law_845 : decode cL_law 845 = .ok (.aload 7, 2) := by decide +kernel
theorem dL_law_847 : decode cL_law 847 = .ok (.bipush 10, 2) := by decide +kernel
theorem dL_law_849 : decode cL_law 849 = .ok (.invokevirtual 54, 3) := by decide +kernel
theorem dL_law_852 : decode cL_law 852 = .ok (.iconst 1, 1) := by decide +kernel
theorem dL_law_853 : decode cL_law 853 = .ok (.if_icmp .ne 115, 3) := by decide +kernel
theorem dL_law_856 : decode cL_law 856 = .ok (.aload 7, 2) := by decide +kernel
theorem dL_law_858 : decode cL_law 858 = .ok (.bipush 12, 2) := by decide +kernel
theorem dL_law_860 : decode cL_law 860 = .ok (.invokevirtual 54, 3) := by decide +kernel
theorem dL_law_863 : decode cL_law 863 = .ok (.iconst 2, 1) := by decide +kernel
theorem dL_law_864 : decode cL_law 864 = .ok (.if_icmp .ne 104, 3) := by decide +kernel
theorem dL_law_867 : decode cL_law 867 = .ok (.aload 7, 2) := by decide +kernel
theorem dL_law_869 : decode cL_law 869 = .ok (.bipush 60, 2) := by decide +kernel
theorem dL_law_871 : decode cL_law 871 = .ok (.invokevirtual 54, 3) := by decide +kernel
theorem dL_law_874 : decode cL_law 874 = .ok (.iconst 3, 1) := by decide +kernel
theorem dL_law_875 : decode cL_law 875 = .ok (.if_icmp .ne 93, 3) := by decide +kernel
theorem dL_law_878 : decode cL_law 878 = .ok (.aload 7, 2) := by decide +kernel
theorem dL_law_880 : decode cL_law 880 = .ok (.invokevirtual 66, 3) := by decide +kernel
theorem dL_law_883 : decode cL_law 883 = .ok (.iconst 5, 1) := by decide +kernel
theorem dL_law_884 : decode cL_law 884 = .ok (.if_icmp .ne 84, 3) := by decide +kernel
theorem dL_law_887 : decode cL_law 887 = .ok (.aload 7, 2) := by decide +kernel
theorem dL_law_889 : decode cL_law 889 = .ok (.invokevirtual 69, 3) := by decide +kernel
theorem dL_law_892 : decode cL_law 892 = .ok (.iconst 5, 1) := by decide +kernel
theorem dL_law_893 : decode cL_law 893 = .ok (.if_icmp .ne 75, 3) := by decide +kernel
theorem dL_law_896 : decode cL_law 896 = .ok (.aload 7, 2) := by decide +kernel
theorem dL_law_898 : decode cL_law 898 = .ok (.iconst 0, 1) := by decide +kernel
theorem dL_law_899 : decode cL_law 899 = .ok (.invokevirtual 72, 3) := by decide +kernel
theorem dL_law_902 : decode cL_law 902 = .ok (.ifCond .ne 66, 3) := by decide +kernel
theorem dL_law_905 : decode cL_law 905 = .ok (.aload 7, 2) := by decide +kernel
theorem dL_law_907 : decode cL_law 907 = .ok (.iconst 1, 1) := by decide +kernel
theorem dL_law_908 : decode cL_law 908 = .ok (.invokevirtual 72, 3) := by decide +kernel
theorem dL_law_911 : decode cL_law 911 = .ok (.iconst 1, 1) := by decide +kernel
theorem dL_law_912 : decode cL_law 912 = .ok (.if_icmp .ne 56, 3) := by decide +kernel
theorem dL_law_915 : decode cL_law 915 = .ok (.aload 7, 2) := by decide +kernel
theorem dL_law_917 : decode cL_law 917 = .ok (.iconst 2, 1) := by decide +kernel
theorem dL_law_918 : decode cL_law 918 = .ok (.invokevirtual 72, 3) := by decide +kernel
theorem dL_law_921 : decode cL_law 921 = .ok (.iconst 3, 1) := by decide +kernel
theorem dL_law_922 : decode cL_law 922 = .ok (.if_icmp .ne 46, 3) := by decide +kernel
theorem dL_law_925 : decode cL_law 925 = .ok (.aload 7, 2) := by decide +kernel
theorem dL_law_927 : decode cL_law 927 = .ok (.bipush 11, 2) := by decide +kernel
theorem dL_law_929 : decode cL_law 929 = .ok (.iconst 3, 1) := by decide +kernel
theorem dL_law_930 : decode cL_law 930 = .ok (.iconst 0, 1) := by decide +kernel
theorem dL_law_931 : decode cL_law 931 = .ok (.invokestatic 30, 3) := by decide +kernel
theorem dL_law_934 : decode cL_law 934 = .ok (.iconst (-1), 1) := by decide +kernel
theorem dL_law_935 : decode cL_law 935 = .ok (.if_icmp .ne 33, 3) := by decide +kernel
theorem dL_law_938 : decode cL_law 938 = .ok (.aload 7, 2) := by decide +kernel
theorem dL_law_940 : decode cL_law 940 = .ok (.iconst 0, 1) := by decide +kernel
theorem dL_law_941 : decode cL_law 941 = .ok (.invokevirtual 57, 3) := by decide +kernel
theorem dL_law_944 : decode cL_law 944 = .ok (.bipush 10, 2) := by decide +kernel
theorem dL_law_946 : decode cL_law 946 = .ok (.if_icmp .ne 22, 3) := by decide +kernel
theorem dL_law_949 : decode cL_law 949 = .ok (.aload 7, 2) := by decide +kernel
theorem dL_law_951 : decode cL_law 951 = .ok (.invokevirtual 66, 3) := by decide +kernel
theorem dL_law_954 : decode cL_law 954 = .ok (.iconst 1, 1) := by decide +kernel
theorem dL_law_955 : decode cL_law 955 = .ok (.if_icmp .ne 13, 3) := by decide +kernel
theorem dL_law_958 : decode cL_law 958 = .ok (.aload 7, 2) := by decide +kernel
theorem dL_law_960 : decode cL_law 960 = .ok (.iconst 0, 1) := by decide +kernel
theorem dL_law_961 : decode cL_law 961 = .ok (.invokevirtual 72, 3) := by decide +kernel
theorem dL_law_964 : decode cL_law 964 = .ok (.iconst 1, 1) := by decide +kernel
theorem dL_law_965 : decode cL_law 965 = .ok (.if_icmp .eq 5, 3) := by decide +kernel
theorem dL_law_968 : decode cL_law 968 = .ok (.iconst 0, 1) := by decide +kernel
theorem dL_law_969 : decode cL_law 969 = .ok (.ireturn, 1) := by decide +kernel
theorem dL_law_970 : decode cL_law 970 = .ok (.aload 7, 2) := by decide +kernel
theorem dL_law_972 : decode cL_law 972 = .ok (.bipush 28, 2) := by decide +kernel
theorem dL_law_974 : decode cL_law 974 = .ok (.invokevirtual 75, 3) := by decide +kernel
theorem dL_law_977 : decode cL_law 977 = .ok (.iconst 1, 1) := by decide +kernel
theorem dL_law_978 : decode cL_law 978 = .ok (.if_icmp .ne 207, 3) := by decide +kernel
theorem dL_law_981 : decode cL_law 981 = .ok (.aload 7, 2) := by decide +kernel
theorem dL_law_983 : decode cL_law 983 = .ok (.bipush 29, 2) := by decide +kernel
theorem dL_law_985 : decode cL_law 985 = .ok (.invokevirtual 75, 3) := by decide +kernel
theorem dL_law_988 : decode cL_law 988 = .ok (.iconst 2, 1) := by decide +kernel
theorem dL_law_989 : decode cL_law 989 = .ok (.if_icmp .ne 196, 3) := by decide +kernel
theorem dL_law_992 : decode cL_law 992 = .ok (.aload 7, 2) := by decide +kernel
theorem dL_law_994 : decode cL_law 994 = .ok (.bipush 42, 2) := by decide +kernel
theorem dL_law_996 : decode cL_law 996 = .ok (.invokevirtual 78, 3) := by decide +kernel
theorem dL_law_999 : decode cL_law 999 = .ok (.iconst 2, 1) := by decide +kernel
theorem dL_law_1000 : decode cL_law 1000 = .ok (.if_icmp .ne 185, 3) := by decide +kernel
theorem dL_law_1003 : decode cL_law 1003 = .ok (.aload 7, 2) := by decide +kernel
theorem dL_law_1005 : decode cL_law 1005 = .ok (.bipush 49, 2) := by decide +kernel
theorem dL_law_1007 : decode cL_law 1007 = .ok (.invokevirtual 75, 3) := by decide +kernel
theorem dL_law_1010 : decode cL_law 1010 = .ok (.iconst 4, 1) := by decide +kernel
theorem dL_law_1011 : decode cL_law 1011 = .ok (.if_icmp .ne 174, 3) := by decide +kernel
theorem dL_law_1014 : decode cL_law 1014 = .ok (.aload 7, 2) := by decide +kernel
theorem dL_law_1016 : decode cL_law 1016 = .ok (.bipush 13, 2) := by decide +kernel
theorem dL_law_1018 : decode cL_law 1018 = .ok (.bipush 50, 2) := by decide +kernel
theorem dL_law_1020 : decode cL_law 1020 = .ok (.iconst 0, 1) := by decide +kernel
theorem dL_law_1021 : decode cL_law 1021 = .ok (.invokestatic 30, 3) := by decide +kernel
theorem dL_law_1024 : decode cL_law 1024 = .ok (.bipush (-4), 2) := by decide +kernel
theorem dL_law_1026 : decode cL_law 1026 = .ok (.if_icmp .ne 159, 3) := by decide +kernel
theorem dL_law_1029 : decode cL_law 1029 = .ok (.aload 7, 2) := by decide +kernel
theorem dL_law_1031 : decode cL_law 1031 = .ok (.bipush 28, 2) := by decide +kernel
theorem dL_law_1033 : decode cL_law 1033 = .ok (.invokevirtual 193, 3) := by decide +kernel
theorem dL_law_1036 : decode cL_law 1036 = .ok (.iconst 1, 1) := by decide +kernel
theorem dL_law_1037 : decode cL_law 1037 = .ok (.if_icmp .ne 148, 3) := by decide +kernel
theorem dL_law_1040 : decode cL_law 1040 = .ok (.aload 7, 2) := by decide +kernel
theorem dL_law_1042 : decode cL_law 1042 = .ok (.bipush 47, 2) := by decide +kernel
theorem dL_law_1044 : decode cL_law 1044 = .ok (.invokevirtual 193, 3) := by decide +kernel
theorem dL_law_1047 : decode cL_law 1047 = .ok (.iconst 1, 1) := by decide +kernel
theorem dL_law_1048 : decode cL_law 1048 = .ok (.if_icmp .ne 137, 3) := by decide +kernel
theorem dL_law_1051 : decode cL_law 1051 = .ok (.aload 7, 2) := by decide +kernel
theorem dL_law_1053 : decode cL_law 1053 = .ok (.iconst 3, 1) := by decide +kernel
theorem dL_law_1054 : decode cL_law 1054 = .ok (.invokevirtual 193, 3) := by decide +kernel
theorem dL_law_1057 : decode cL_law 1057 = .ok (.ifCond .ne 128, 3) := by decide +kernel
theorem dL_law_1060 : decode cL_law 1060 = .ok (.aload 7, 2) := by decide +kernel
theorem dL_law_1062 : decode cL_law 1062 = .ok (.bipush 12, 2) := by decide +kernel
theorem dL_law_1064 : decode cL_law 1064 = .ok (.iconst 0, 1) := by decide +kernel
theorem dL_law_1065 : decode cL_law 1065 = .ok (.iconst 0, 1) := by decide +kernel
theorem dL_law_1066 : decode cL_law 1066 = .ok (.invokestatic 30, 3) := by decide +kernel
theorem dL_law_1069 : decode cL_law 1069 = .ok (.bipush (-2), 2) := by decide +kernel
theorem dL_law_1071 : decode cL_law 1071 = .ok (.if_icmp .ne 114, 3) := by decide +kernel
theorem dL_law_1074 : decode cL_law 1074 = .ok (.aload 7, 2) := by decide +kernel
theorem dL_law_1076 : decode cL_law 1076 = .ok (.aload 7, 2) := by decide +kernel
theorem dL_law_1078 : decode cL_law 1078 = .ok (.iconst 2, 1) := by decide +kernel
theorem dL_law_1079 : decode cL_law 1079 = .ok (.invokevirtual 235, 3) := by decide +kernel
theorem dL_law_1082 : decode cL_law 1082 = .ok (.ldc 238, 2) := by decide +kernel
theorem dL_law_1084 : decode cL_law 1084 = .ok (.invokestatic 240, 3) := by decide +kernel
theorem dL_law_1087 : decode cL_law 1087 = .ok (.ifCond .eq 98, 3) := by decide +kernel
theorem dL_law_1090 : decode cL_law 1090 = .ok (.aload 7, 2) := by decide +kernel
theorem dL_law_1092 : decode cL_law 1092 = .ok (.aload 7, 2) := by decide +kernel
theorem dL_law_1094 : decode cL_law 1094 = .ok (.iconst 0, 1) := by decide +kernel
theorem dL_law_1095 : decode cL_law 1095 = .ok (.invokevirtual 235, 3) := by decide +kernel
theorem dL_law_1098 : decode cL_law 1098 = .ok (.new 196, 3) := by decide +kernel
theorem dL_law_1101 : decode cL_law 1101 = .ok (.dup, 1) := by decide +kernel
theorem dL_law_1102 : decode cL_law 1102 = .ok (.invokespecial 198, 3) := by decide +kernel
theorem dL_law_1105 : decode cL_law 1105 = .ok (.ldc 244, 2) := by decide +kernel
theorem dL_law_1107 : decode cL_law 1107 = .ok (.invokevirtual 201, 3) := by decide +kernel
theorem dL_law_1110 : decode cL_law 1110 = .ok (.iload 6, 2) := by decide +kernel
theorem dL_law_1112 : decode cL_law 1112 = .ok (.iconst 1, 1) := by decide +kernel
theorem dL_law_1113 : decode cL_law 1113 = .ok (.iload 6, 2) := by decide +kernel
theorem dL_law_1115 : decode cL_law 1115 = .ok (.bipush 20, 2) := by decide +kernel
theorem dL_law_1117 : decode cL_law 1117 = .ok (.idiv, 1) := by decide +kernel
theorem dL_law_1118 : decode cL_law 1118 = .ok (.invokestatic 128, 3) := by decide +kernel
theorem dL_law_1121 : decode cL_law 1121 = .ok (.isub, 1) := by decide +kernel
theorem dL_law_1122 : decode cL_law 1122 = .ok (.invokevirtual 205, 3) := by decide +kernel
theorem dL_law_1125 : decode cL_law 1125 = .ok (.ldc 246, 2) := by decide +kernel
theorem dL_law_1127 : decode cL_law 1127 = .ok (.invokevirtual 201, 3) := by decide +kernel
theorem dL_law_1130 : decode cL_law 1130 = .ok (.invokevirtual 210, 3) := by decide +kernel
theorem dL_law_1133 : decode cL_law 1133 = .ok (.invokestatic 240, 3) := by decide +kernel
theorem dL_law_1136 : decode cL_law 1136 = .ok (.ifCond .eq 49, 3) := by decide +kernel
theorem dL_law_1139 : decode cL_law 1139 = .ok (.aload 7, 2) := by decide +kernel
theorem dL_law_1141 : decode cL_law 1141 = .ok (.invokevirtual 153, 3) := by decide +kernel
theorem dL_law_1144 : decode cL_law 1144 = .ok (.ifCond .lt 41, 3) := by decide +kernel
theorem dL_law_1147 : decode cL_law 1147 = .ok (.aload 7, 2) := by decide +kernel
theorem dL_law_1149 : decode cL_law 1149 = .ok (.invokevirtual 110, 3) := by decide +kernel
theorem dL_law_1152 : decode cL_law 1152 = .ok (.iconst 3, 1) := by decide +kernel
theorem dL_law_1153 : decode cL_law 1153 = .ok (.if_icmp .ne 32, 3) := by decide +kernel
theorem dL_law_1156 : decode cL_law 1156 = .ok (.aload 7, 2) := by decide +kernel
theorem dL_law_1158 : decode cL_law 1158 = .ok (.invokevirtual 248, 3) := by decide +kernel
theorem dL_law_1161 : decode cL_law 1161 = .ok (.iload 6, 2) := by decide +kernel
theorem dL_law_1163 : decode cL_law 1163 = .ok (.iconst 1, 1) := by decide +kernel
theorem dL_law_1164 : decode cL_law 1164 = .ok (.iload 6, 2) := by decide +kernel
theorem dL_law_1166 : decode cL_law 1166 = .ok (.bipush 20, 2) := by decide +kernel
theorem dL_law_1168 : decode cL_law 1168 = .ok (.idiv, 1) := by decide +kernel
theorem dL_law_1169 : decode cL_law 1169 = .ok (.invokestatic 128, 3) := by decide +kernel
theorem dL_law_1172 : decode cL_law 1172 = .ok (.isub, 1) := by decide +kernel
theorem dL_law_1173 : decode cL_law 1173 = .ok (.bipush 8, 2) := by decide +kernel
theorem dL_law_1175 : decode cL_law 1175 = .ok (.iadd, 1) := by decide +kernel
theorem dL_law_1176 : decode cL_law 1176 = .ok (.i2d, 1) := by decide +kernel
theorem dL_law_1177 : decode cL_law 1177 = .ok (.ldc2_w 252, 3) := by decide +kernel
theorem dL_law_1180 : decode cL_law 1180 = .ok (.ddiv, 1) := by decide +kernel
theorem dL_law_1181 : decode cL_law 1181 = .ok (.dcmp .l, 1) := by decide +kernel
theorem dL_law_1182 : decode cL_law 1182 = .ok (.ifCond .eq 5, 3) := by decide +kernel
theorem dL_law_1185 : decode cL_law 1185 = .ok (.iconst 0, 1) := by decide +kernel
theorem dL_law_1186 : decode cL_law 1186 = .ok (.ireturn, 1) := by decide +kernel
theorem dL_law_1187 : decode cL_law 1187 = .ok (.aload_n 1, 1) := by decide +kernel
theorem dL_law_1188 : decode cL_law 1188 = .ok (.invokevirtual 254, 3) := by decide +kernel
theorem dL_law_1191 : decode cL_law 1191 = .ok (.iload_n 3, 1) := by decide +kernel
theorem dL_law_1192 : decode cL_law 1192 = .ok (.if_icmp .ne 16, 3) := by decide +kernel
theorem dL_law_1195 : decode cL_law 1195 = .ok (.aload_n 1, 1) := by decide +kernel
theorem dL_law_1196 : decode cL_law 1196 = .ok (.invokestatic 140, 3) := by decide +kernel
theorem dL_law_1199 : decode cL_law 1199 = .ok (.iload 4, 2) := by decide +kernel
theorem dL_law_1201 : decode cL_law 1201 = .ok (.if_icmp .ne 7, 3) := by decide +kernel
theorem dL_law_1204 : decode cL_law 1204 = .ok (.iconst 1, 1) := by decide +kernel
theorem dL_law_1205 : decode cL_law 1205 = .ok (.goto 4, 3) := by decide +kernel
theorem dL_law_1208 : decode cL_law 1208 = .ok (.iconst 0, 1) := by decide +kernel
theorem dL_law_1209 : decode cL_law 1209 = .ok (.ireturn, 1) := by decide +kernel
theorem dL_isCard_0 : decode cL_isCard 0 = .ok (.iload_n 1, 1) := by decide +kernel
theorem dL_isCard_1 : decode cL_isCard 1 = .ok (.aload_n 2, 1) := by decide +kernel
theorem dL_isCard_2 : decode cL_isCard 2 = .ok (.invokevirtual 7, 3) := by decide +kernel
theorem dL_isCard_5 : decode cL_isCard 5 = .ok (.if_icmp .eq 5, 3) := by decide +kernel
theorem dL_isCard_8 : decode cL_isCard 8 = .ok (.iconst 0, 1) := by decide +kernel
theorem dL_isCard_9 : decode cL_isCard 9 = .ok (.ireturn, 1) := by decide +kernel
theorem dL_isCard_10 : decode cL_isCard 10 = .ok (.iconst 0, 1) := by decide +kernel
theorem dL_isCard_11 : decode cL_isCard 11 = .ok (.istore_n 3, 1) := by decide +kernel
theorem dL_isCard_12 : decode cL_isCard 12 = .ok (.iload_n 3, 1) := by decide +kernel
theorem dL_isCard_13 : decode cL_isCard 13 = .ok (.iload_n 1, 1) := by decide +kernel
theorem dL_isCard_14 : decode cL_isCard 14 = .ok (.if_icmp .ge 24, 3) := by decide +kernel
theorem dL_isCard_17 : decode cL_isCard 17 = .ok (.aload_n 0, 1) := by decide +kernel
theorem dL_isCard_18 : decode cL_isCard 18 = .ok (.iload_n 3, 1) := by decide +kernel
theorem dL_isCard_19 : decode cL_isCard 19 = .ok (.invokevirtual 257, 3) := by decide +kernel
theorem dL_isCard_22 : decode cL_isCard 22 = .ok (.aload_n 2, 1) := by decide +kernel
theorem dL_isCard_23 : decode cL_isCard 23 = .ok (.iload_n 3, 1) := by decide +kernel
theorem dL_isCard_24 : decode cL_isCard 24 = .ok (.invokevirtual 13, 3) := by decide +kernel
theorem dL_isCard_27 : decode cL_isCard 27 = .ok (.if_icmp .eq 5, 3) := by decide +kernel
theorem dL_isCard_30 : decode cL_isCard 30 = .ok (.iconst 0, 1) := by decide +kernel
theorem dL_isCard_31 : decode cL_isCard 31 = .ok (.ireturn, 1) := by decide +kernel
theorem dL_isCard_32 : decode cL_isCard 32 = .ok (.iinc 3 1, 3) := by decide +kernel
theorem dL_isCard_35 : decode cL_isCard 35 = .ok (.goto (-23), 3) := by decide +kernel
theorem dL_isCard_38 : decode cL_isCard 38 = .ok (.iconst 1, 1) := by decide +kernel
theorem dL_isCard_39 : decode cL_isCard 39 = .ok (.ireturn, 1) := by decide +kernel
theorem dL_runs_0 : decode cL_runs 0 = .ok (.aload_n 0, 1) := by decide +kernel
theorem dL_runs_1 : decode cL_runs 1 = .ok (.invokevirtual 150, 3) := by decide +kernel
theorem dL_runs_4 : decode cL_runs 4 = .ok (.ireturn, 1) := by decide +kernel
theorem dL_runs_5 : decode cL_runs 5 = .ok (.astore_n 1, 1) := by decide +kernel
theorem dL_runs_6 : decode cL_runs 6 = .ok (.iconst (-1), 1) := by decide +kernel
theorem dL_runs_7 : decode cL_runs 7 = .ok (.ireturn, 1) := by decide +kernel
theorem dL_runs_8 : decode cL_runs 8 = .ok (.astore_n 1, 1) := by decide +kernel
theorem dL_runs_9 : decode cL_runs 9 = .ok (.bipush (-2), 2) := by decide +kernel
theorem dL_runs_11 : decode cL_runs 11 = .ok (.ireturn, 1) := by decide +kernel
theorem dL_fails_0 : decode cL_fails 0 = .ok (.aload_n 0, 1) := by decide +kernel
theorem dL_fails_1 : decode cL_fails 1 = .ok (.aload_n 1, 1) := by decide +kernel
theorem dL_fails_2 : decode cL_fails 2 = .ok (.invokestatic 146, 3) := by decide +kernel
theorem dL_fails_5 : decode cL_fails 5 = .ok (.aload_n 0, 1) := by decide +kernel
theorem dL_fails_6 : decode cL_fails 6 = .ok (.invokestatic 158, 3) := by decide +kernel
theorem dL_fails_9 : decode cL_fails 9 = .ok (.iconst (-1), 1) := by decide +kernel
theorem dL_fails_10 : decode cL_fails 10 = .ok (.if_icmp .ne 15, 3) := by decide +kernel
theorem dL_fails_13 : decode cL_fails 13 = .ok (.aload_n 0, 1) := by decide +kernel
theorem dL_fails_14 : decode cL_fails 14 = .ok (.invokevirtual 260, 3) := by decide +kernel
theorem dL_fails_17 : decode cL_fails 17 = .ok (.iload_n 2, 1) := by decide +kernel
theorem dL_fails_18 : decode cL_fails 18 = .ok (.if_icmp .ne 7, 3) := by decide +kernel
theorem dL_fails_21 : decode cL_fails 21 = .ok (.iconst 1, 1) := by decide +kernel
theorem dL_fails_22 : decode cL_fails 22 = .ok (.goto 4, 3) := by decide +kernel
theorem dL_fails_25 : decode cL_fails 25 = .ok (.iconst 0, 1) := by decide +kernel
theorem dL_fails_26 : decode cL_fails 26 = .ok (.ireturn, 1) := by decide +kernel
