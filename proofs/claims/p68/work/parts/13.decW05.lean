theorem dL_hangs_900 : decode cL_hangs 900 = .ok (.if_icmp .ne 47, 3) := by decide +kernel
theorem dL_hangs_903 : decode cL_hangs 903 = .ok (.iload 14, 2) := by decide +kernel
theorem dL_hangs_905 : decode cL_hangs 905 = .ok (.bipush 10, 2) := by decide +kernel
theorem dL_hangs_907 : decode cL_hangs 907 = .ok (.irem, 1) := by decide +kernel
theorem dL_hangs_908 : decode cL_hangs 908 = .ok (.ifCond .eq 21, 3) := by decide +kernel
theorem dL_hangs_911 : decode cL_hangs 911 = .ok (.iload 14, 2) := by decide +kernel
theorem dL_hangs_913 : decode cL_hangs 913 = .ok (.bipush 10, 2) := by decide +kernel
theorem dL_hangs_915 : decode cL_hangs 915 = .ok (.irem, 1) := by decide +kernel
theorem dL_hangs_916 : decode cL_hangs 916 = .ok (.iconst 1, 1) := by decide +kernel
theorem dL_hangs_917 : decode cL_hangs 917 = .ok (.if_icmp .eq 12, 3) := by decide +kernel
theorem dL_hangs_920 : decode cL_hangs 920 = .ok (.iload 14, 2) := by decide +kernel
theorem dL_hangs_922 : decode cL_hangs 922 = .ok (.bipush 10, 2) := by decide +kernel
theorem dL_hangs_924 : decode cL_hangs 924 = .ok (.irem, 1) := by decide +kernel
theorem dL_hangs_925 : decode cL_hangs 925 = .ok (.iconst 3, 1) := by decide +kernel
theorem dL_hangs_926 : decode cL_hangs 926 = .ok (.if_icmp .ne 21, 3) := by decide +kernel
theorem dL_hangs_929 : decode cL_hangs 929 = .ok (.iload 14, 2) := by decide +kernel
theorem dL_hangs_931 : decode cL_hangs 931 = .ok (.bipush 10, 2) := by decide +kernel
theorem dL_hangs_933 : decode cL_hangs 933 = .ok (.irem, 1) := by decide +kernel
theorem dL_hangs_934 : decode cL_hangs 934 = .ok (.iconst 3, 1) := by decide +kernel
theorem dL_hangs_935 : decode cL_hangs 935 = .ok (.if_icmp .eq 8, 3) := by decide +kernel
theorem dL_hangs_938 : decode cL_hangs 938 = .ok (.iload 15, 2) := by decide +kernel
theorem dL_hangs_940 : decode cL_hangs 940 = .ok (.ifCond .ne 7, 3) := by decide +kernel
theorem dL_hangs_943 : decode cL_hangs 943 = .ok (.iconst 1, 1) := by decide +kernel
theorem dL_hangs_944 : decode cL_hangs 944 = .ok (.goto 4, 3) := by decide +kernel
theorem dL_hangs_947 : decode cL_hangs 947 = .ok (.iconst 0, 1) := by decide +kernel
theorem dL_hangs_948 : decode cL_hangs 948 = .ok (.istore_n 3, 1) := by decide +kernel
theorem dL_hangs_949 : decode cL_hangs 949 = .ok (.iload 12, 2) := by decide +kernel
theorem dL_hangs_951 : decode cL_hangs 951 = .ok (.ifCond .eq 32, 3) := by decide +kernel
theorem dL_hangs_954 : decode cL_hangs 954 = .ok (.aload_n 0, 1) := by decide +kernel
theorem dL_hangs_955 : decode cL_hangs 955 = .ok (.iload 13, 2) := by decide +kernel
theorem dL_hangs_957 : decode cL_hangs 957 = .ok (.invokestatic 295, 3) := by decide +kernel
theorem dL_hangs_960 : decode cL_hangs 960 = .ok (.ifCond .eq 19, 3) := by decide +kernel
theorem dL_hangs_963 : decode cL_hangs 963 = .ok (.iload 14, 2) := by decide +kernel
theorem dL_hangs_965 : decode cL_hangs 965 = .ok (.bipush 10, 2) := by decide +kernel
theorem dL_hangs_967 : decode cL_hangs 967 = .ok (.irem, 1) := by decide +kernel
theorem dL_hangs_968 : decode cL_hangs 968 = .ok (.iconst 3, 1) := by decide +kernel
theorem dL_hangs_969 : decode cL_hangs 969 = .ok (.if_icmp .ne 14, 3) := by decide +kernel
theorem dL_hangs_972 : decode cL_hangs 972 = .ok (.iload 14, 2) := by decide +kernel
theorem dL_hangs_974 : decode cL_hangs 974 = .ok (.bipush 100, 2) := by decide +kernel
theorem dL_hangs_976 : decode cL_hangs 976 = .ok (.if_icmp .ge 7, 3) := by decide +kernel
theorem dL_hangs_979 : decode cL_hangs 979 = .ok (.iconst 1, 1) := by decide +kernel
theorem dL_hangs_980 : decode cL_hangs 980 = .ok (.goto 4, 3) := by decide +kernel
theorem dL_hangs_983 : decode cL_hangs 983 = .ok (.iconst 0, 1) := by decide +kernel
theorem dL_hangs_984 : decode cL_hangs 984 = .ok (.istore 12, 2) := by decide +kernel
theorem dL_hangs_986 : decode cL_hangs 986 = .ok (.iinc 13 1, 3) := by decide +kernel
theorem dL_hangs_989 : decode cL_hangs 989 = .ok (.goto (-191), 3) := by decide +kernel
theorem dL_hangs_992 : decode cL_hangs 992 = .ok (.aload_n 0, 1) := by decide +kernel
theorem dL_hangs_993 : decode cL_hangs 993 = .ok (.iload 5, 2) := by decide +kernel
theorem dL_hangs_995 : decode cL_hangs 995 = .ok (.invokestatic 298, 3) := by decide +kernel
theorem dL_hangs_998 : decode cL_hangs 998 = .ok (.istore 13, 2) := by decide +kernel
theorem dL_hangs_1000 : decode cL_hangs 1000 = .ok (.iload_n 3, 1) := by decide +kernel
theorem dL_hangs_1001 : decode cL_hangs 1001 = .ok (.ifCond .eq 108, 3) := by decide +kernel
theorem dL_hangs_1004 : decode cL_hangs 1004 = .ok (.aload_n 0, 1) := by decide +kernel
theorem dL_hangs_1005 : decode cL_hangs 1005 = .ok (.iload 5, 2) := by decide +kernel
theorem dL_hangs_1007 : decode cL_hangs 1007 = .ok (.invokestatic 300, 3) := by decide +kernel
theorem dL_hangs_1010 : decode cL_hangs 1010 = .ok (.iload 6, 2) := by decide +kernel
theorem dL_hangs_1012 : decode cL_hangs 1012 = .ok (.bipush 100, 2) := by decide +kernel
theorem dL_hangs_1014 : decode cL_hangs 1014 = .ok (.iload 9, 2) := by decide +kernel
theorem dL_hangs_1016 : decode cL_hangs 1016 = .ok (.imul, 1) := by decide +kernel
theorem dL_hangs_1017 : decode cL_hangs 1017 = .ok (.iadd, 1) := by decide +kernel
theorem dL_hangs_1018 : decode cL_hangs 1018 = .ok (.sipush 10000, 3) := by decide +kernel
theorem dL_hangs_1021 : decode cL_hangs 1021 = .ok (.iload 8, 2) := by decide +kernel
theorem dL_hangs_1023 : decode cL_hangs 1023 = .ok (.imul, 1) := by decide +kernel
theorem dL_hangs_1024 : decode cL_hangs 1024 = .ok (.iadd, 1) := by decide +kernel
theorem dL_hangs_1025 : decode cL_hangs 1025 = .ok (.iload 12, 2) := by decide +kernel
theorem dL_hangs_1027 : decode cL_hangs 1027 = .ok (.ifCond .eq 8, 3) := by decide +kernel
theorem dL_hangs_1030 : decode cL_hangs 1030 = .ok (.ldc 159, 2) := by decide +kernel
theorem dL_hangs_1032 : decode cL_hangs 1032 = .ok (.goto 4, 3) := by decide +kernel
theorem dL_hangs_1035 : decode cL_hangs 1035 = .ok (.iconst 0, 1) := by decide +kernel
theorem dL_hangs_1036 : decode cL_hangs 1036 = .ok (.iadd, 1) := by decide +kernel
theorem dL_hangs_1037 : decode cL_hangs 1037 = .ok (.if_icmp .ne 72, 3) := by decide +kernel
theorem dL_hangs_1040 : decode cL_hangs 1040 = .ok (.iload 6, 2) := by decide +kernel
theorem dL_hangs_1042 : decode cL_hangs 1042 = .ok (.bipush 100, 2) := by decide +kernel
theorem dL_hangs_1044 : decode cL_hangs 1044 = .ok (.if_icmp .ge 65, 3) := by decide +kernel
theorem dL_hangs_1047 : decode cL_hangs 1047 = .ok (.aload_n 0, 1) := by decide +kernel
theorem dL_hangs_1048 : decode cL_hangs 1048 = .ok (.iload 5, 2) := by decide +kernel
theorem dL_hangs_1050 : decode cL_hangs 1050 = .ok (.invokestatic 303, 3) := by decide +kernel
theorem dL_hangs_1053 : decode cL_hangs 1053 = .ok (.iload 7, 2) := by decide +kernel
theorem dL_hangs_1055 : decode cL_hangs 1055 = .ok (.if_icmp .ne 54, 3) := by decide +kernel
theorem dL_hangs_1058 : decode cL_hangs 1058 = .ok (.iload 10, 2) := by decide +kernel
theorem dL_hangs_1060 : decode cL_hangs 1060 = .ok (.iload 11, 2) := by decide +kernel
theorem dL_hangs_1062 : decode cL_hangs 1062 = .ok (.if_icmp .ne 47, 3) := by decide +kernel
theorem dL_hangs_1065 : decode cL_hangs 1065 = .ok (.iload 13, 2) := by decide +kernel
theorem dL_hangs_1067 : decode cL_hangs 1067 = .ok (.bipush (-4), 2) := by decide +kernel
theorem dL_hangs_1069 : decode cL_hangs 1069 = .ok (.if_icmp .eq 25, 3) := by decide +kernel
theorem dL_hangs_1072 : decode cL_hangs 1072 = .ok (.iload 13, 2) := by decide +kernel
theorem dL_hangs_1074 : decode cL_hangs 1074 = .ok (.ifCond .lt 35, 3) := by decide +kernel
theorem dL_hangs_1077 : decode cL_hangs 1077 = .ok (.iload 13, 2) := by decide +kernel
theorem dL_hangs_1079 : decode cL_hangs 1079 = .ok (.iload_n 1, 1) := by decide +kernel
theorem dL_hangs_1080 : decode cL_hangs 1080 = .ok (.if_icmp .ge 29, 3) := by decide +kernel
theorem dL_hangs_1083 : decode cL_hangs 1083 = .ok (.aload_n 0, 1) := by decide +kernel
theorem dL_hangs_1084 : decode cL_hangs 1084 = .ok (.iload 13, 2) := by decide +kernel
theorem dL_hangs_1086 : decode cL_hangs 1086 = .ok (.iload 5, 2) := by decide +kernel
theorem dL_hangs_1088 : decode cL_hangs 1088 = .ok (.invokestatic 262, 3) := by decide +kernel
theorem dL_hangs_1091 : decode cL_hangs 1091 = .ok (.ifCond .ne 18, 3) := by decide +kernel
theorem dL_hangs_1094 : decode cL_hangs 1094 = .ok (.aload_n 0, 1) := by decide +kernel
theorem dL_hangs_1095 : decode cL_hangs 1095 = .ok (.iload 5, 2) := by decide +kernel
theorem dL_hangs_1097 : decode cL_hangs 1097 = .ok (.invokestatic 306, 3) := by decide +kernel
theorem dL_hangs_1100 : decode cL_hangs 1100 = .ok (.dconst 0, 1) := by decide +kernel
theorem dL_hangs_1101 : decode cL_hangs 1101 = .ok (.dcmp .l, 1) := by decide +kernel
theorem dL_hangs_1102 : decode cL_hangs 1102 = .ok (.ifCond .lt 7, 3) := by decide +kernel
theorem dL_hangs_1105 : decode cL_hangs 1105 = .ok (.iconst 1, 1) := by decide +kernel
theorem dL_hangs_1106 : decode cL_hangs 1106 = .ok (.goto 4, 3) := by decide +kernel
theorem dL_hangs_1109 : decode cL_hangs 1109 = .ok (.iconst 0, 1) := by decide +kernel
theorem dL_hangs_1110 : decode cL_hangs 1110 = .ok (.istore_n 3, 1) := by decide +kernel
theorem dL_hangs_1111 : decode cL_hangs 1111 = .ok (.iload_n 2, 1) := by decide +kernel
theorem dL_hangs_1112 : decode cL_hangs 1112 = .ok (.iload 9, 2) := by decide +kernel
theorem dL_hangs_1114 : decode cL_hangs 1114 = .ok (.iadd, 1) := by decide +kernel
theorem dL_hangs_1115 : decode cL_hangs 1115 = .ok (.istore_n 2, 1) := by decide +kernel
theorem dL_hangs_1116 : decode cL_hangs 1116 = .ok (.iinc 5 1, 3) := by decide +kernel
theorem dL_hangs_1119 : decode cL_hangs 1119 = .ok (.goto (-1035), 3) := by decide +kernel
theorem dL_hangs_1122 : decode cL_hangs 1122 = .ok (.iconst 0, 1) := by decide +kernel
theorem dL_hangs_1123 : decode cL_hangs 1123 = .ok (.istore 5, 2) := by decide +kernel
theorem dL_hangs_1125 : decode cL_hangs 1125 = .ok (.iload 5, 2) := by decide +kernel
theorem dL_hangs_1127 : decode cL_hangs 1127 = .ok (.iconst 4, 1) := by decide +kernel
theorem dL_hangs_1128 : decode cL_hangs 1128 = .ok (.if_icmp .ge 36, 3) := by decide +kernel
theorem dL_hangs_1131 : decode cL_hangs 1131 = .ok (.iload_n 3, 1) := by decide +kernel
theorem dL_hangs_1132 : decode cL_hangs 1132 = .ok (.ifCond .eq 32, 3) := by decide +kernel
theorem dL_hangs_1135 : decode cL_hangs 1135 = .ok (.aload_n 0, 1) := by decide +kernel
theorem dL_hangs_1136 : decode cL_hangs 1136 = .ok (.iload 5, 2) := by decide +kernel
theorem dL_hangs_1138 : decode cL_hangs 1138 = .ok (.invokestatic 295, 3) := by decide +kernel
theorem dL_hangs_1141 : decode cL_hangs 1141 = .ok (.bipush 100, 2) := by decide +kernel
theorem dL_hangs_1143 : decode cL_hangs 1143 = .ok (.irem, 1) := by decide +kernel
theorem dL_hangs_1144 : decode cL_hangs 1144 = .ok (.aload 4, 2) := by decide +kernel
theorem dL_hangs_1146 : decode cL_hangs 1146 = .ok (.iload 5, 2) := by decide +kernel
theorem dL_hangs_1148 : decode cL_hangs 1148 = .ok (.iaload, 1) := by decide +kernel
theorem dL_hangs_1149 : decode cL_hangs 1149 = .ok (.if_icmp .ne 7, 3) := by decide +kernel
theorem dL_hangs_1152 : decode cL_hangs 1152 = .ok (.iconst 1, 1) := by decide +kernel
theorem dL_hangs_1153 : decode cL_hangs 1153 = .ok (.goto 4, 3) := by decide +kernel
theorem dL_hangs_1156 : decode cL_hangs 1156 = .ok (.iconst 0, 1) := by decide +kernel
theorem dL_hangs_1157 : decode cL_hangs 1157 = .ok (.istore_n 3, 1) := by decide +kernel
theorem dL_hangs_1158 : decode cL_hangs 1158 = .ok (.iinc 5 1, 3) := by decide +kernel
theorem dL_hangs_1161 : decode cL_hangs 1161 = .ok (.goto (-36), 3) := by decide +kernel
theorem dL_hangs_1164 : decode cL_hangs 1164 = .ok (.iload_n 3, 1) := by decide +kernel
theorem dL_hangs_1165 : decode cL_hangs 1165 = .ok (.ifCond .eq 37, 3) := by decide +kernel
theorem dL_hangs_1168 : decode cL_hangs 1168 = .ok (.iload_n 2, 1) := by decide +kernel
theorem dL_hangs_1169 : decode cL_hangs 1169 = .ok (.aload_n 0, 1) := by decide +kernel
theorem dL_hangs_1170 : decode cL_hangs 1170 = .ok (.invokevirtual 309, 3) := by decide +kernel
theorem dL_hangs_1173 : decode cL_hangs 1173 = .ok (.aload_n 0, 1) := by decide +kernel
theorem dL_hangs_1174 : decode cL_hangs 1174 = .ok (.invokevirtual 312, 3) := by decide +kernel
theorem dL_hangs_1177 : decode cL_hangs 1177 = .ok (.isub, 1) := by decide +kernel
theorem dL_hangs_1178 : decode cL_hangs 1178 = .ok (.if_icmp .ne 24, 3) := by decide +kernel
theorem dL_hangs_1181 : decode cL_hangs 1181 = .ok (.aload_n 0, 1) := by decide +kernel
theorem dL_hangs_1182 : decode cL_hangs 1182 = .ok (.invokevirtual 315, 3) := by decide +kernel
theorem dL_hangs_1185 : decode cL_hangs 1185 = .ok (.ifCond .lt 17, 3) := by decide +kernel
theorem dL_hangs_1188 : decode cL_hangs 1188 = .ok (.aload_n 0, 1) := by decide +kernel
theorem dL_hangs_1189 : decode cL_hangs 1189 = .ok (.iload_n 1, 1) := by decide +kernel
theorem dL_hangs_1190 : decode cL_hangs 1190 = .ok (.invokestatic 255, 3) := by decide +kernel
theorem dL_hangs_1193 : decode cL_hangs 1193 = .ok (.bipush (-2), 2) := by decide +kernel
theorem dL_hangs_1195 : decode cL_hangs 1195 = .ok (.if_icmp .ne 7, 3) := by decide +kernel
