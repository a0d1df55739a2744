theorem d_La_law_945 : decode code 945 = .ok (.ireturn, 1) := by decide +kernel
theorem d_La_law_946 : decode code 946 = .ok (.goto 243, 3) := by decide +kernel
theorem d_La_law_949 : decode code 949 = .ok (.aload_n 1, 1) := by decide +kernel
theorem d_La_law_950 : decode code 950 = .ok (.aload_n 0, 1) := by decide +kernel
theorem d_La_law_951 : decode code 951 = .ok (.iload 4, 2) := by decide +kernel
theorem d_La_law_953 : decode code 953 = .ok (.iconst 1, 1) := by decide +kernel
theorem d_La_law_954 : decode code 954 = .ok (.iadd, 1) := by decide +kernel
theorem d_La_law_955 : decode code 955 = .ok (.iaload, 1) := by decide +kernel
theorem d_La_law_956 : decode code 956 = .ok (.aload_n 0, 1) := by decide +kernel
theorem d_La_law_957 : decode code 957 = .ok (.iload 4, 2) := by decide +kernel
theorem d_La_law_959 : decode code 959 = .ok (.iconst 2, 1) := by decide +kernel
theorem d_La_law_960 : decode code 960 = .ok (.iadd, 1) := by decide +kernel
theorem d_La_law_961 : decode code 961 = .ok (.iaload, 1) := by decide +kernel
theorem d_La_law_962 : decode code 962 = .ok (.aload_n 0, 1) := by decide +kernel
theorem d_La_law_963 : decode code 963 = .ok (.iload 4, 2) := by decide +kernel
theorem d_La_law_965 : decode code 965 = .ok (.iconst 3, 1) := by decide +kernel
theorem d_La_law_966 : decode code 966 = .ok (.iadd, 1) := by decide +kernel
theorem d_La_law_967 : decode code 967 = .ok (.iaload, 1) := by decide +kernel
theorem d_La_law_968 : decode code 968 = .ok (.aload_n 3, 1) := by decide +kernel
theorem d_La_law_969 : decode code 969 = .ok (.invokestatic 123, 3) := by decide +kernel
theorem d_La_law_972 : decode code 972 = .ok (.istore 5, 2) := by decide +kernel
theorem d_La_law_974 : decode code 974 = .ok (.aload_n 2, 1) := by decide +kernel
theorem d_La_law_975 : decode code 975 = .ok (.aload_n 0, 1) := by decide +kernel
theorem d_La_law_976 : decode code 976 = .ok (.iload 4, 2) := by decide +kernel
theorem d_La_law_978 : decode code 978 = .ok (.iconst 1, 1) := by decide +kernel
theorem d_La_law_979 : decode code 979 = .ok (.iadd, 1) := by decide +kernel
theorem d_La_law_980 : decode code 980 = .ok (.iaload, 1) := by decide +kernel
theorem d_La_law_981 : decode code 981 = .ok (.aload_n 0, 1) := by decide +kernel
theorem d_La_law_982 : decode code 982 = .ok (.iload 4, 2) := by decide +kernel
theorem d_La_law_984 : decode code 984 = .ok (.iconst 2, 1) := by decide +kernel
theorem d_La_law_985 : decode code 985 = .ok (.iadd, 1) := by decide +kernel
theorem d_La_law_986 : decode code 986 = .ok (.iaload, 1) := by decide +kernel
theorem d_La_law_987 : decode code 987 = .ok (.aload_n 0, 1) := by decide +kernel
theorem d_La_law_988 : decode code 988 = .ok (.iload 4, 2) := by decide +kernel
theorem d_La_law_990 : decode code 990 = .ok (.iconst 3, 1) := by decide +kernel
theorem d_La_law_991 : decode code 991 = .ok (.iadd, 1) := by decide +kernel
theorem d_La_law_992 : decode code 992 = .ok (.iaload, 1) := by decide +kernel
theorem d_La_law_993 : decode code 993 = .ok (.invokevirtual 125, 3) := by decide +kernel
theorem d_La_law_996 : decode code 996 = .ok (.istore 6, 2) := by decide +kernel
theorem d_La_law_998 : decode code 998 = .ok (.aload_n 2, 1) := by decide +kernel
theorem d_La_law_999 : decode code 999 = .ok (.invokevirtual 79, 3) := by decide +kernel
theorem d_La_law_1002 : decode code 1002 = .ok (.iload 5, 2) := by decide +kernel
theorem d_La_law_1004 : decode code 1004 = .ok (.if_icmp .eq 5, 3) := by decide +kernel
theorem d_La_law_1007 : decode code 1007 = .ok (.iconst 0, 1) := by decide +kernel
theorem d_La_law_1008 : decode code 1008 = .ok (.ireturn, 1) := by decide +kernel
theorem d_La_law_1009 : decode code 1009 = .ok (.iload 5, 2) := by decide +kernel
theorem d_La_law_1011 : decode code 1011 = .ok (.ifCond .ne 15, 3) := by decide +kernel
theorem d_La_law_1014 : decode code 1014 = .ok (.aload_n 3, 1) := by decide +kernel
theorem d_La_law_1015 : decode code 1015 = .ok (.iconst 0, 1) := by decide +kernel
theorem d_La_law_1016 : decode code 1016 = .ok (.laload, 1) := by decide +kernel
theorem d_La_law_1017 : decode code 1017 = .ok (.iload 6, 2) := by decide +kernel
theorem d_La_law_1019 : decode code 1019 = .ok (.i2l, 1) := by decide +kernel
theorem d_La_law_1020 : decode code 1020 = .ok (.lcmp, 1) := by decide +kernel
theorem d_La_law_1021 : decode code 1021 = .ok (.ifCond .eq 5, 3) := by decide +kernel
theorem d_La_law_1024 : decode code 1024 = .ok (.iconst 0, 1) := by decide +kernel
theorem d_La_law_1025 : decode code 1025 = .ok (.ireturn, 1) := by decide +kernel
theorem d_La_law_1026 : decode code 1026 = .ok (.goto 163, 3) := by decide +kernel
theorem d_La_law_1029 : decode code 1029 = .ok (.aload_n 1, 1) := by decide +kernel
theorem d_La_law_1030 : decode code 1030 = .ok (.aload_n 0, 1) := by decide +kernel
theorem d_La_law_1031 : decode code 1031 = .ok (.iload 4, 2) := by decide +kernel
theorem d_La_law_1033 : decode code 1033 = .ok (.iconst 1, 1) := by decide +kernel
theorem d_La_law_1034 : decode code 1034 = .ok (.iadd, 1) := by decide +kernel
theorem d_La_law_1035 : decode code 1035 = .ok (.iaload, 1) := by decide +kernel
theorem d_La_law_1036 : decode code 1036 = .ok (.aload_n 0, 1) := by decide +kernel
theorem d_La_law_1037 : decode code 1037 = .ok (.iload 4, 2) := by decide +kernel
theorem d_La_law_1039 : decode code 1039 = .ok (.iconst 2, 1) := by decide +kernel
theorem d_La_law_1040 : decode code 1040 = .ok (.iadd, 1) := by decide +kernel
theorem d_La_law_1041 : decode code 1041 = .ok (.iaload, 1) := by decide +kernel
theorem d_La_law_1042 : decode code 1042 = .ok (.aload_n 3, 1) := by decide +kernel
theorem d_La_law_1043 : decode code 1043 = .ok (.invokestatic 126, 3) := by decide +kernel
theorem d_La_law_1046 : decode code 1046 = .ok (.istore 5, 2) := by decide +kernel
theorem d_La_law_1048 : decode code 1048 = .ok (.aload_n 2, 1) := by decide +kernel
theorem d_La_law_1049 : decode code 1049 = .ok (.aload_n 0, 1) := by decide +kernel
theorem d_La_law_1050 : decode code 1050 = .ok (.iload 4, 2) := by decide +kernel
theorem d_La_law_1052 : decode code 1052 = .ok (.iconst 1, 1) := by decide +kernel
theorem d_La_law_1053 : decode code 1053 = .ok (.iadd, 1) := by decide +kernel
theorem d_La_law_1054 : decode code 1054 = .ok (.iaload, 1) := by decide +kernel
theorem d_La_law_1055 : decode code 1055 = .ok (.aload_n 0, 1) := by decide +kernel
theorem d_La_law_1056 : decode code 1056 = .ok (.iload 4, 2) := by decide +kernel
theorem d_La_law_1058 : decode code 1058 = .ok (.iconst 2, 1) := by decide +kernel
theorem d_La_law_1059 : decode code 1059 = .ok (.iadd, 1) := by decide +kernel
theorem d_La_law_1060 : decode code 1060 = .ok (.iaload, 1) := by decide +kernel
theorem d_La_law_1061 : decode code 1061 = .ok (.invokevirtual 128, 3) := by decide +kernel
theorem d_La_law_1064 : decode code 1064 = .ok (.lstore 6, 2) := by decide +kernel
theorem d_La_law_1066 : decode code 1066 = .ok (.aload_n 2, 1) := by decide +kernel
theorem d_La_law_1067 : decode code 1067 = .ok (.invokevirtual 79, 3) := by decide +kernel
theorem d_La_law_1070 : decode code 1070 = .ok (.iload 5, 2) := by decide +kernel
theorem d_La_law_1072 : decode code 1072 = .ok (.if_icmp .eq 5, 3) := by decide +kernel
theorem d_La_law_1075 : decode code 1075 = .ok (.iconst 0, 1) := by decide +kernel
theorem d_La_law_1076 : decode code 1076 = .ok (.ireturn, 1) := by decide +kernel
theorem d_La_law_1077 : decode code 1077 = .ok (.iload 5, 2) := by decide +kernel
theorem d_La_law_1079 : decode code 1079 = .ok (.ifCond .ne 14, 3) := by decide +kernel
theorem d_La_law_1082 : decode code 1082 = .ok (.aload_n 3, 1) := by decide +kernel
theorem d_La_law_1083 : decode code 1083 = .ok (.iconst 0, 1) := by decide +kernel
theorem d_La_law_1084 : decode code 1084 = .ok (.laload, 1) := by decide +kernel
theorem d_La_law_1085 : decode code 1085 = .ok (.lload 6, 2) := by decide +kernel
theorem d_La_law_1087 : decode code 1087 = .ok (.lcmp, 1) := by decide +kernel
theorem d_La_law_1088 : decode code 1088 = .ok (.ifCond .eq 5, 3) := by decide +kernel
theorem d_La_law_1091 : decode code 1091 = .ok (.iconst 0, 1) := by decide +kernel
theorem d_La_law_1092 : decode code 1092 = .ok (.ireturn, 1) := by decide +kernel
theorem d_La_law_1093 : decode code 1093 = .ok (.goto 96, 3) := by decide +kernel
theorem d_La_law_1096 : decode code 1096 = .ok (.aload_n 1, 1) := by decide +kernel
theorem d_La_law_1097 : decode code 1097 = .ok (.aload_n 0, 1) := by decide +kernel
theorem d_La_law_1098 : decode code 1098 = .ok (.iload 4, 2) := by decide +kernel
theorem d_La_law_1100 : decode code 1100 = .ok (.iconst 1, 1) := by decide +kernel
theorem d_La_law_1101 : decode code 1101 = .ok (.iadd, 1) := by decide +kernel
theorem d_La_law_1102 : decode code 1102 = .ok (.iaload, 1) := by decide +kernel
theorem d_La_law_1103 : decode code 1103 = .ok (.aload_n 0, 1) := by decide +kernel
theorem d_La_law_1104 : decode code 1104 = .ok (.iload 4, 2) := by decide +kernel
theorem d_La_law_1106 : decode code 1106 = .ok (.iconst 2, 1) := by decide +kernel
theorem d_La_law_1107 : decode code 1107 = .ok (.iadd, 1) := by decide +kernel
theorem d_La_law_1108 : decode code 1108 = .ok (.iaload, 1) := by decide +kernel
theorem d_La_law_1109 : decode code 1109 = .ok (.aload_n 3, 1) := by decide +kernel
theorem d_La_law_1110 : decode code 1110 = .ok (.invokestatic 129, 3) := by decide +kernel
theorem d_La_law_1113 : decode code 1113 = .ok (.istore 5, 2) := by decide +kernel
theorem d_La_law_1115 : decode code 1115 = .ok (.aload_n 2, 1) := by decide +kernel
theorem d_La_law_1116 : decode code 1116 = .ok (.aload_n 0, 1) := by decide +kernel
theorem d_La_law_1117 : decode code 1117 = .ok (.iload 4, 2) := by decide +kernel
theorem d_La_law_1119 : decode code 1119 = .ok (.iconst 1, 1) := by decide +kernel
theorem d_La_law_1120 : decode code 1120 = .ok (.iadd, 1) := by decide +kernel
theorem d_La_law_1121 : decode code 1121 = .ok (.iaload, 1) := by decide +kernel
theorem d_La_law_1122 : decode code 1122 = .ok (.aload_n 0, 1) := by decide +kernel
theorem d_La_law_1123 : decode code 1123 = .ok (.iload 4, 2) := by decide +kernel
theorem d_La_law_1125 : decode code 1125 = .ok (.iconst 2, 1) := by decide +kernel
theorem d_La_law_1126 : decode code 1126 = .ok (.iadd, 1) := by decide +kernel
theorem d_La_law_1127 : decode code 1127 = .ok (.iaload, 1) := by decide +kernel
theorem d_La_law_1128 : decode code 1128 = .ok (.invokevirtual 131, 3) := by decide +kernel
theorem d_La_law_1131 : decode code 1131 = .ok (.istore 6, 2) := by decide +kernel
theorem d_La_law_1133 : decode code 1133 = .ok (.aload_n 2, 1) := by decide +kernel
theorem d_La_law_1134 : decode code 1134 = .ok (.invokevirtual 79, 3) := by decide +kernel
theorem d_La_law_1137 : decode code 1137 = .ok (.iload 5, 2) := by decide +kernel
theorem d_La_law_1139 : decode code 1139 = .ok (.if_icmp .eq 5, 3) := by decide +kernel
theorem d_La_law_1142 : decode code 1142 = .ok (.iconst 0, 1) := by decide +kernel
theorem d_La_law_1143 : decode code 1143 = .ok (.ireturn, 1) := by decide +kernel
theorem d_La_law_1144 : decode code 1144 = .ok (.iload 5, 2) := by decide +kernel
theorem d_La_law_1146 : decode code 1146 = .ok (.ifCond .ne 15, 3) := by decide +kernel
theorem d_La_law_1149 : decode code 1149 = .ok (.aload_n 3, 1) := by decide +kernel
theorem d_La_law_1150 : decode code 1150 = .ok (.iconst 0, 1) := by decide +kernel
theorem d_La_law_1151 : decode code 1151 = .ok (.laload, 1) := by decide +kernel
theorem d_La_law_1152 : decode code 1152 = .ok (.iload 6, 2) := by decide +kernel
theorem d_La_law_1154 : decode code 1154 = .ok (.i2l, 1) := by decide +kernel
theorem d_La_law_1155 : decode code 1155 = .ok (.lcmp, 1) := by decide +kernel
theorem d_La_law_1156 : decode code 1156 = .ok (.ifCond .eq 5, 3) := by decide +kernel
theorem d_La_law_1159 : decode code 1159 = .ok (.iconst 0, 1) := by decide +kernel
theorem d_La_law_1160 : decode code 1160 = .ok (.ireturn, 1) := by decide +kernel
theorem d_La_law_1161 : decode code 1161 = .ok (.goto 28, 3) := by decide +kernel
theorem d_La_law_1164 : decode code 1164 = .ok (.aload_n 1, 1) := by decide +kernel
theorem d_La_law_1165 : decode code 1165 = .ok (.aload_n 0, 1) := by decide +kernel
theorem d_La_law_1166 : decode code 1166 = .ok (.iload 4, 2) := by decide +kernel
theorem d_La_law_1168 : decode code 1168 = .ok (.iconst 1, 1) := by decide +kernel
theorem d_La_law_1169 : decode code 1169 = .ok (.iadd, 1) := by decide +kernel
theorem d_La_law_1170 : decode code 1170 = .ok (.iaload, 1) := by decide +kernel
theorem d_La_law_1171 : decode code 1171 = .ok (.invokevirtual 132, 3) := by decide +kernel
theorem d_La_law_1174 : decode code 1174 = .ok (.aload_n 2, 1) := by decide +kernel
theorem d_La_law_1175 : decode code 1175 = .ok (.aload_n 0, 1) := by decide +kernel
theorem d_La_law_1176 : decode code 1176 = .ok (.iload 4, 2) := by decide +kernel
theorem d_La_law_1178 : decode code 1178 = .ok (.iconst 1, 1) := by decide +kernel
theorem d_La_law_1179 : decode code 1179 = .ok (.iadd, 1) := by decide +kernel
theorem d_La_law_1180 : decode code 1180 = .ok (.iaload, 1) := by decide +kernel
theorem d_La_law_1181 : decode code 1181 = .ok (.invokevirtual 135, 3) := by decide +kernel
theorem d_La_law_1184 : decode code 1184 = .ok (.if_icmp .eq 5, 3) := by decide +kernel
theorem d_La_law_1187 : decode code 1187 = .ok (.iconst 0, 1) := by decide +kernel
theorem d_La_law_1188 : decode code 1188 = .ok (.ireturn, 1) := by decide +kernel
theorem d_La_law_1189 : decode code 1189 = .ok (.iinc 4 5, 3) := by decide +kernel
theorem d_La_law_1192 : decode code 1192 = .ok (.goto (-1169), 3) := by decide +kernel
theorem d_La_law_1195 : decode code 1195 = .ok (.iconst 1, 1) := by decide +kernel
theorem d_La_law_1196 : decode code 1196 = .ok (.ireturn, 1) := by decide +kernel
