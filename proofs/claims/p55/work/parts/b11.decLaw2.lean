-- decode rows, as printed
theorem dL_law_811 : decode cL_law 811 = .ok (.if_icmp .eq 5, 3) := by decide +kernel
theorem dL_law_814 : decode cL_law 814 = .ok (.iconst 0, 1) := by decide +kernel
theorem dL_law_815 : decode cL_law 815 = .ok (.ireturn, 1) := by decide +kernel
theorem dL_law_816 : decode cL_law 816 = .ok (.iconst 0, 1) := by decide +kernel
theorem dL_law_817 : decode cL_law 817 = .ok (.istore 10, 2) := by decide +kernel
theorem dL_law_819 : decode cL_law 819 = .ok (.iconst 0, 1) := by decide +kernel
theorem dL_law_820 : decode cL_law 820 = .ok (.istore 11, 2) := by decide +kernel
theorem dL_law_822 : decode cL_law 822 = .ok (.iload 11, 2) := by decide +kernel
theorem dL_law_824 : decode cL_law 824 = .ok (.iconst 4, 1) := by decide +kernel
theorem dL_law_825 : decode cL_law 825 = .ok (.if_icmp .ge 38, 3) := by decide +kernel
theorem dL_law_828 : decode cL_law 828 = .ok (.iload 10, 2) := by decide +kernel
theorem dL_law_830 : decode cL_law 830 = .ok (.iload 9, 2) := by decide +kernel
theorem dL_law_832 : decode cL_law 832 = .ok (.bipush 13, 2) := by decide +kernel
theorem dL_law_834 : decode cL_law 834 = .ok (.iload 11, 2) := by decide +kernel
theorem dL_law_836 : decode cL_law 836 = .ok (.imul, 1) := by decide +kernel
theorem dL_law_837 : decode cL_law 837 = .ok (.iadd, 1) := by decide +kernel
theorem dL_law_838 : decode cL_law 838 = .ok (.bipush 100, 2) := by decide +kernel
theorem dL_law_840 : decode cL_law 840 = .ok (.irem, 1) := by decide +kernel
theorem dL_law_841 : decode cL_law 841 = .ok (.iload 9, 2) := by decide +kernel
theorem dL_law_843 : decode cL_law 843 = .ok (.bipush 100, 2) := by decide +kernel
theorem dL_law_845 : decode cL_law 845 = .ok (.irem, 1) := by decide +kernel
theorem dL_law_846 : decode cL_law 846 = .ok (.if_icmp .gt 7, 3) := by decide +kernel
theorem dL_law_849 : decode cL_law 849 = .ok (.iconst 1, 1) := by decide +kernel
theorem dL_law_850 : decode cL_law 850 = .ok (.goto 4, 3) := by decide +kernel
theorem dL_law_853 : decode cL_law 853 = .ok (.iconst 0, 1) := by decide +kernel
theorem dL_law_854 : decode cL_law 854 = .ok (.iadd, 1) := by decide +kernel
theorem dL_law_855 : decode cL_law 855 = .ok (.istore 10, 2) := by decide +kernel
theorem dL_law_857 : decode cL_law 857 = .ok (.iinc 11 1, 3) := by decide +kernel
theorem dL_law_860 : decode cL_law 860 = .ok (.goto (-38), 3) := by decide +kernel
theorem dL_law_863 : decode cL_law 863 = .ok (.aload 8, 2) := by decide +kernel
theorem dL_law_865 : decode cL_law 865 = .ok (.iconst 0, 1) := by decide +kernel
theorem dL_law_866 : decode cL_law 866 = .ok (.invokevirtual 244, 3) := by decide +kernel
theorem dL_law_869 : decode cL_law 869 = .ok (.iload 10, 2) := by decide +kernel
theorem dL_law_871 : decode cL_law 871 = .ok (.if_icmp .ne 123, 3) := by decide +kernel
theorem dL_law_874 : decode cL_law 874 = .ok (.aload 8, 2) := by decide +kernel
theorem dL_law_876 : decode cL_law 876 = .ok (.iconst 0, 1) := by decide +kernel
theorem dL_law_877 : decode cL_law 877 = .ok (.invokevirtual 58, 3) := by decide +kernel
theorem dL_law_880 : decode cL_law 880 = .ok (.ifCond .ne 114, 3) := by decide +kernel
theorem dL_law_883 : decode cL_law 883 = .ok (.aload 8, 2) := by decide +kernel
theorem dL_law_885 : decode cL_law 885 = .ok (.iconst 0, 1) := by decide +kernel
theorem dL_law_886 : decode cL_law 886 = .ok (.invokevirtual 126, 3) := by decide +kernel
theorem dL_law_889 : decode cL_law 889 = .ok (.ifCond .eq 105, 3) := by decide +kernel
theorem dL_law_892 : decode cL_law 892 = .ok (.aload 8, 2) := by decide +kernel
theorem dL_law_894 : decode cL_law 894 = .ok (.iconst 4, 1) := by decide +kernel
theorem dL_law_895 : decode cL_law 895 = .ok (.iconst 0, 1) := by decide +kernel
theorem dL_law_896 : decode cL_law 896 = .ok (.iconst 0, 1) := by decide +kernel
theorem dL_law_897 : decode cL_law 897 = .ok (.iconst 0, 1) := by decide +kernel
theorem dL_law_898 : decode cL_law 898 = .ok (.invokestatic 30, 3) := by decide +kernel
theorem dL_law_901 : decode cL_law 901 = .ok (.bipush (-3), 2) := by decide +kernel
theorem dL_law_903 : decode cL_law 903 = .ok (.if_icmp .ne 91, 3) := by decide +kernel
theorem dL_law_906 : decode cL_law 906 = .ok (.aload 8, 2) := by decide +kernel
theorem dL_law_908 : decode cL_law 908 = .ok (.iconst 0, 1) := by decide +kernel
theorem dL_law_909 : decode cL_law 909 = .ok (.invokevirtual 62, 3) := by decide +kernel
theorem dL_law_912 : decode cL_law 912 = .ok (.iconst 4, 1) := by decide +kernel
theorem dL_law_913 : decode cL_law 913 = .ok (.iload 6, 2) := by decide +kernel
theorem dL_law_915 : decode cL_law 915 = .ok (.iconst 1, 1) := by decide +kernel
theorem dL_law_916 : decode cL_law 916 = .ok (.isub, 1) := by decide +kernel
theorem dL_law_917 : decode cL_law 917 = .ok (.imul, 1) := by decide +kernel
theorem dL_law_918 : decode cL_law 918 = .ok (.iconst 4, 1) := by decide +kernel
theorem dL_law_919 : decode cL_law 919 = .ok (.iadd, 1) := by decide +kernel
theorem dL_law_920 : decode cL_law 920 = .ok (.if_icmp .ne 74, 3) := by decide +kernel
theorem dL_law_923 : decode cL_law 923 = .ok (.aload 8, 2) := by decide +kernel
theorem dL_law_925 : decode cL_law 925 = .ok (.iconst 2, 1) := by decide +kernel
theorem dL_law_926 : decode cL_law 926 = .ok (.invokevirtual 108, 3) := by decide +kernel
theorem dL_law_929 : decode cL_law 929 = .ok (.bipush 16, 2) := by decide +kernel
theorem dL_law_931 : decode cL_law 931 = .ok (.if_icmp .ne 63, 3) := by decide +kernel
theorem dL_law_934 : decode cL_law 934 = .ok (.aload 8, 2) := by decide +kernel
theorem dL_law_936 : decode cL_law 936 = .ok (.iconst 2, 1) := by decide +kernel
theorem dL_law_937 : decode cL_law 937 = .ok (.invokevirtual 111, 3) := by decide +kernel
theorem dL_law_940 : decode cL_law 940 = .ok (.iconst 4, 1) := by decide +kernel
theorem dL_law_941 : decode cL_law 941 = .ok (.if_icmp .ne 53, 3) := by decide +kernel
theorem dL_law_944 : decode cL_law 944 = .ok (.aload 8, 2) := by decide +kernel
theorem dL_law_946 : decode cL_law 946 = .ok (.iconst 1, 1) := by decide +kernel
theorem dL_law_947 : decode cL_law 947 = .ok (.invokevirtual 111, 3) := by decide +kernel
theorem dL_law_950 : decode cL_law 950 = .ok (.ifCond .ne 44, 3) := by decide +kernel
theorem dL_law_953 : decode cL_law 953 = .ok (.aload 8, 2) := by decide +kernel
theorem dL_law_955 : decode cL_law 955 = .ok (.iconst 0, 1) := by decide +kernel
theorem dL_law_956 : decode cL_law 956 = .ok (.invokevirtual 111, 3) := by decide +kernel
theorem dL_law_959 : decode cL_law 959 = .ok (.iconst 4, 1) := by decide +kernel
theorem dL_law_960 : decode cL_law 960 = .ok (.if_icmp .ne 34, 3) := by decide +kernel
theorem dL_law_963 : decode cL_law 963 = .ok (.aload 8, 2) := by decide +kernel
theorem dL_law_965 : decode cL_law 965 = .ok (.invokevirtual 99, 3) := by decide +kernel
theorem dL_law_968 : decode cL_law 968 = .ok (.iconst 4, 1) := by decide +kernel
theorem dL_law_969 : decode cL_law 969 = .ok (.if_icmp .ne 25, 3) := by decide +kernel
theorem dL_law_972 : decode cL_law 972 = .ok (.aload 8, 2) := by decide +kernel
theorem dL_law_974 : decode cL_law 974 = .ok (.invokevirtual 37, 3) := by decide +kernel
theorem dL_law_977 : decode cL_law 977 = .ok (.ifCond .ne 17, 3) := by decide +kernel
theorem dL_law_980 : decode cL_law 980 = .ok (.aload 8, 2) := by decide +kernel
theorem dL_law_982 : decode cL_law 982 = .ok (.iconst 5, 1) := by decide +kernel
theorem dL_law_983 : decode cL_law 983 = .ok (.iconst 0, 1) := by decide +kernel
theorem dL_law_984 : decode cL_law 984 = .ok (.iconst 0, 1) := by decide +kernel
theorem dL_law_985 : decode cL_law 985 = .ok (.iconst 0, 1) := by decide +kernel
theorem dL_law_986 : decode cL_law 986 = .ok (.invokestatic 30, 3) := by decide +kernel
theorem dL_law_989 : decode cL_law 989 = .ok (.bipush (-5), 2) := by decide +kernel
theorem dL_law_991 : decode cL_law 991 = .ok (.if_icmp .eq 5, 3) := by decide +kernel
theorem dL_law_994 : decode cL_law 994 = .ok (.iconst 0, 1) := by decide +kernel
theorem dL_law_995 : decode cL_law 995 = .ok (.ireturn, 1) := by decide +kernel
theorem dL_law_996 : decode cL_law 996 = .ok (.aload 8, 2) := by decide +kernel
theorem dL_law_998 : decode cL_law 998 = .ok (.iconst 0, 1) := by decide +kernel
theorem dL_law_999 : decode cL_law 999 = .ok (.iconst 0, 1) := by decide +kernel
theorem dL_law_1000 : decode cL_law 1000 = .ok (.iconst 1, 1) := by decide +kernel
theorem dL_law_1001 : decode cL_law 1001 = .ok (.invokevirtual 55, 3) := by decide +kernel
theorem dL_law_1004 : decode cL_law 1004 = .ok (.iconst 1, 1) := by decide +kernel
theorem dL_law_1005 : decode cL_law 1005 = .ok (.if_icmp .ne 179, 3) := by decide +kernel
theorem dL_law_1008 : decode cL_law 1008 = .ok (.aload 8, 2) := by decide +kernel
theorem dL_law_1010 : decode cL_law 1010 = .ok (.iconst 1, 1) := by decide +kernel
theorem dL_law_1011 : decode cL_law 1011 = .ok (.invokevirtual 87, 3) := by decide +kernel
theorem dL_law_1014 : decode cL_law 1014 = .ok (.iconst 4, 1) := by decide +kernel
theorem dL_law_1015 : decode cL_law 1015 = .ok (.if_icmp .ne 169, 3) := by decide +kernel
theorem dL_law_1018 : decode cL_law 1018 = .ok (.aload 8, 2) := by decide +kernel
theorem dL_law_1020 : decode cL_law 1020 = .ok (.iconst 4, 1) := by decide +kernel
theorem dL_law_1021 : decode cL_law 1021 = .ok (.invokevirtual 90, 3) := by decide +kernel
theorem dL_law_1024 : decode cL_law 1024 = .ok (.iload 9, 2) := by decide +kernel
theorem dL_law_1026 : decode cL_law 1026 = .ok (.bipush 52, 2) := by decide +kernel
theorem dL_law_1028 : decode cL_law 1028 = .ok (.iadd, 1) := by decide +kernel
theorem dL_law_1029 : decode cL_law 1029 = .ok (.bipush 100, 2) := by decide +kernel
theorem dL_law_1031 : decode cL_law 1031 = .ok (.irem, 1) := by decide +kernel
theorem dL_law_1032 : decode cL_law 1032 = .ok (.if_icmp .ne 152, 3) := by decide +kernel
theorem dL_law_1035 : decode cL_law 1035 = .ok (.aload 8, 2) := by decide +kernel
theorem dL_law_1037 : decode cL_law 1037 = .ok (.bipush 99, 2) := by decide +kernel
theorem dL_law_1039 : decode cL_law 1039 = .ok (.invokevirtual 68, 3) := by decide +kernel
theorem dL_law_1042 : decode cL_law 1042 = .ok (.iload 9, 2) := by decide +kernel
theorem dL_law_1044 : decode cL_law 1044 = .ok (.bipush 100, 2) := by decide +kernel
theorem dL_law_1046 : decode cL_law 1046 = .ok (.irem, 1) := by decide +kernel
theorem dL_law_1047 : decode cL_law 1047 = .ok (.if_icmp .ne 137, 3) := by decide +kernel
theorem dL_law_1050 : decode cL_law 1050 = .ok (.aload 8, 2) := by decide +kernel
theorem dL_law_1052 : decode cL_law 1052 = .ok (.iconst 1, 1) := by decide +kernel
theorem dL_law_1053 : decode cL_law 1053 = .ok (.invokevirtual 58, 3) := by decide +kernel
theorem dL_law_1056 : decode cL_law 1056 = .ok (.ifCond .eq 128, 3) := by decide +kernel
theorem dL_law_1059 : decode cL_law 1059 = .ok (.aload 8, 2) := by decide +kernel
theorem dL_law_1061 : decode cL_law 1061 = .ok (.invokevirtual 96, 3) := by decide +kernel
theorem dL_law_1064 : decode cL_law 1064 = .ok (.iconst 1, 1) := by decide +kernel
theorem dL_law_1065 : decode cL_law 1065 = .ok (.if_icmp .ne 119, 3) := by decide +kernel
theorem dL_law_1068 : decode cL_law 1068 = .ok (.aload 8, 2) := by decide +kernel
theorem dL_law_1070 : decode cL_law 1070 = .ok (.invokevirtual 93, 3) := by decide +kernel
theorem dL_law_1073 : decode cL_law 1073 = .ok (.iconst 5, 1) := by decide +kernel
theorem dL_law_1074 : decode cL_law 1074 = .ok (.if_icmp .ne 110, 3) := by decide +kernel
theorem dL_law_1077 : decode cL_law 1077 = .ok (.aload 8, 2) := by decide +kernel
theorem dL_law_1079 : decode cL_law 1079 = .ok (.invokevirtual 247, 3) := by decide +kernel
theorem dL_law_1082 : decode cL_law 1082 = .ok (.ldc 251, 2) := by decide +kernel
theorem dL_law_1084 : decode cL_law 1084 = .ok (.fcmp .l, 1) := by decide +kernel
theorem dL_law_1085 : decode cL_law 1085 = .ok (.ifCond .ne 99, 3) := by decide +kernel
theorem dL_law_1088 : decode cL_law 1088 = .ok (.aload 8, 2) := by decide +kernel
theorem dL_law_1090 : decode cL_law 1090 = .ok (.iconst 0, 1) := by decide +kernel
theorem dL_law_1091 : decode cL_law 1091 = .ok (.invokevirtual 224, 3) := by decide +kernel
theorem dL_law_1094 : decode cL_law 1094 = .ok (.ifCond .ne 90, 3) := by decide +kernel
theorem dL_law_1097 : decode cL_law 1097 = .ok (.aload 8, 2) := by decide +kernel
theorem dL_law_1099 : decode cL_law 1099 = .ok (.iconst 0, 1) := by decide +kernel
theorem dL_law_1100 : decode cL_law 1100 = .ok (.invokevirtual 65, 3) := by decide +kernel
theorem dL_law_1103 : decode cL_law 1103 = .ok (.iconst 5, 1) := by decide +kernel
theorem dL_law_1104 : decode cL_law 1104 = .ok (.if_icmp .ne 80, 3) := by decide +kernel
theorem dL_law_1107 : decode cL_law 1107 = .ok (.aload 8, 2) := by decide +kernel
theorem dL_law_1109 : decode cL_law 1109 = .ok (.iconst 0, 1) := by decide +kernel
theorem dL_law_1110 : decode cL_law 1110 = .ok (.iconst 0, 1) := by decide +kernel
theorem dL_law_1111 : decode cL_law 1111 = .ok (.invokevirtual 218, 3) := by decide +kernel
theorem dL_law_1114 : decode cL_law 1114 = .ok (.iload 9, 2) := by decide +kernel
theorem dL_law_1116 : decode cL_law 1116 = .ok (.bipush 100, 2) := by decide +kernel
theorem dL_law_1118 : decode cL_law 1118 = .ok (.irem, 1) := by decide +kernel
theorem dL_law_1119 : decode cL_law 1119 = .ok (.if_icmp .ne 65, 3) := by decide +kernel
theorem dL_law_1122 : decode cL_law 1122 = .ok (.aload 8, 2) := by decide +kernel
theorem dL_law_1124 : decode cL_law 1124 = .ok (.invokevirtual 153, 3) := by decide +kernel
theorem dL_law_1127 : decode cL_law 1127 = .ok (.ifCond .lt 57, 3) := by decide +kernel
theorem dL_law_1130 : decode cL_law 1130 = .ok (.aload 8, 2) := by decide +kernel
theorem dL_law_1132 : decode cL_law 1132 = .ok (.iconst 0, 1) := by decide +kernel
theorem dL_law_1133 : decode cL_law 1133 = .ok (.invokevirtual 123, 3) := by decide +kernel
theorem dL_law_1136 : decode cL_law 1136 = .ok (.iconst 5, 1) := by decide +kernel
theorem dL_law_1137 : decode cL_law 1137 = .ok (.if_icmp .ne 47, 3) := by decide +kernel
theorem dL_law_1140 : decode cL_law 1140 = .ok (.aload 8, 2) := by decide +kernel
theorem dL_law_1142 : decode cL_law 1142 = .ok (.invokevirtual 153, 3) := by decide +kernel
theorem dL_law_1145 : decode cL_law 1145 = .ok (.ifCond .lt 39, 3) := by decide +kernel
theorem dL_law_1148 : decode cL_law 1148 = .ok (.aload 8, 2) := by decide +kernel
theorem dL_law_1150 : decode cL_law 1150 = .ok (.iconst 1, 1) := by decide +kernel
theorem dL_law_1151 : decode cL_law 1151 = .ok (.invokestatic 252, 3) := by decide +kernel
theorem dL_law_1154 : decode cL_law 1154 = .ok (.ifCond .eq 30, 3) := by decide +kernel
theorem dL_law_1157 : decode cL_law 1157 = .ok (.aload 8, 2) := by decide +kernel
theorem dL_law_1159 : decode cL_law 1159 = .ok (.iconst 1, 1) := by decide +kernel
theorem dL_law_1160 : decode cL_law 1160 = .ok (.invokevirtual 126, 3) := by decide +kernel
theorem dL_law_1163 : decode cL_law 1163 = .ok (.ifCond .ne 21, 3) := by decide +kernel
theorem dL_law_1166 : decode cL_law 1166 = .ok (.aload 8, 2) := by decide +kernel
theorem dL_law_1168 : decode cL_law 1168 = .ok (.iconst 4, 1) := by decide +kernel
theorem dL_law_1169 : decode cL_law 1169 = .ok (.invokevirtual 256, 3) := by decide +kernel
theorem dL_law_1172 : decode cL_law 1172 = .ok (.iconst 1, 1) := by decide +kernel
theorem dL_law_1173 : decode cL_law 1173 = .ok (.if_icmp .ne 11, 3) := by decide +kernel
theorem dL_law_1176 : decode cL_law 1176 = .ok (.aload 8, 2) := by decide +kernel
theorem dL_law_1178 : decode cL_law 1178 = .ok (.invokevirtual 191, 3) := by decide +kernel
theorem dL_law_1181 : decode cL_law 1181 = .ok (.ifCond .ne 5, 3) := by decide +kernel
theorem dL_law_1184 : decode cL_law 1184 = .ok (.iconst 0, 1) := by decide +kernel
theorem dL_law_1185 : decode cL_law 1185 = .ok (.ireturn, 1) := by decide +kernel
theorem dL_law_1186 : decode cL_law 1186 = .ok (.aload_n 1, 1) := by decide +kernel
theorem dL_law_1187 : decode cL_law 1187 = .ok (.invokevirtual 259, 3) := by decide +kernel
theorem dL_law_1190 : decode cL_law 1190 = .ok (.iload_n 3, 1) := by decide +kernel
theorem dL_law_1191 : decode cL_law 1191 = .ok (.if_icmp .ne 16, 3) := by decide +kernel
theorem dL_law_1194 : decode cL_law 1194 = .ok (.aload_n 1, 1) := by decide +kernel
theorem dL_law_1195 : decode cL_law 1195 = .ok (.invokestatic 140, 3) := by decide +kernel
theorem dL_law_1198 : decode cL_law 1198 = .ok (.iload 4, 2) := by decide +kernel
theorem dL_law_1200 : decode cL_law 1200 = .ok (.if_icmp .ne 7, 3) := by decide +kernel
theorem dL_law_1203 : decode cL_law 1203 = .ok (.iconst 1, 1) := by decide +kernel
theorem dL_law_1204 : decode cL_law 1204 = .ok (.goto 4, 3) := by decide +kernel
theorem dL_law_1207 : decode cL_law 1207 = .ok (.iconst 0, 1) := by decide +kernel
theorem dL_law_1208 : decode cL_law 1208 = .ok (.ireturn, 1) := by decide +kernel
