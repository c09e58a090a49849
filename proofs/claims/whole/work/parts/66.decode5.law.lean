theorem d_L_law_984 : decode code 984 = .ok (.iconst 1, 1) := by decide +kernel
theorem d_L_law_985 : decode code 985 = .ok (.iadd, 1) := by decide +kernel
theorem d_L_law_986 : decode code 986 = .ok (.iaload, 1) := by decide +kernel
theorem d_L_law_987 : decode code 987 = .ok (.aload_n 0, 1) := by decide +kernel
theorem d_L_law_988 : decode code 988 = .ok (.iload 4, 2) := by decide +kernel
theorem d_L_law_990 : decode code 990 = .ok (.iconst 2, 1) := by decide +kernel
theorem d_L_law_991 : decode code 991 = .ok (.iadd, 1) := by decide +kernel
theorem d_L_law_992 : decode code 992 = .ok (.iaload, 1) := by decide +kernel
theorem d_L_law_993 : decode code 993 = .ok (.aload_n 0, 1) := by decide +kernel
theorem d_L_law_994 : decode code 994 = .ok (.iload 4, 2) := by decide +kernel
theorem d_L_law_996 : decode code 996 = .ok (.iconst 3, 1) := by decide +kernel
theorem d_L_law_997 : decode code 997 = .ok (.iadd, 1) := by decide +kernel
theorem d_L_law_998 : decode code 998 = .ok (.iaload, 1) := by decide +kernel
theorem d_L_law_999 : decode code 999 = .ok (.invokevirtual 125, 3) := by decide +kernel
theorem d_L_law_1002 : decode code 1002 = .ok (.istore 6, 2) := by decide +kernel
theorem d_L_law_1004 : decode code 1004 = .ok (.aload_n 2, 1) := by decide +kernel
theorem d_L_law_1005 : decode code 1005 = .ok (.invokevirtual 83, 3) := by decide +kernel
theorem d_L_law_1008 : decode code 1008 = .ok (.iload 5, 2) := by decide +kernel
theorem d_L_law_1010 : decode code 1010 = .ok (.if_icmp .eq 5, 3) := by decide +kernel
theorem d_L_law_1013 : decode code 1013 = .ok (.iconst 0, 1) := by decide +kernel
theorem d_L_law_1014 : decode code 1014 = .ok (.ireturn, 1) := by decide +kernel
theorem d_L_law_1015 : decode code 1015 = .ok (.iload 5, 2) := by decide +kernel
theorem d_L_law_1017 : decode code 1017 = .ok (.ifCond .ne 15, 3) := by decide +kernel
theorem d_L_law_1020 : decode code 1020 = .ok (.aload_n 3, 1) := by decide +kernel
theorem d_L_law_1021 : decode code 1021 = .ok (.iconst 0, 1) := by decide +kernel
theorem d_L_law_1022 : decode code 1022 = .ok (.laload, 1) := by decide +kernel
theorem d_L_law_1023 : decode code 1023 = .ok (.iload 6, 2) := by decide +kernel
theorem d_L_law_1025 : decode code 1025 = .ok (.i2l, 1) := by decide +kernel
theorem d_L_law_1026 : decode code 1026 = .ok (.lcmp, 1) := by decide +kernel
theorem d_L_law_1027 : decode code 1027 = .ok (.ifCond .eq 5, 3) := by decide +kernel
theorem d_L_law_1030 : decode code 1030 = .ok (.iconst 0, 1) := by decide +kernel
theorem d_L_law_1031 : decode code 1031 = .ok (.ireturn, 1) := by decide +kernel
theorem d_L_law_1032 : decode code 1032 = .ok (.goto 294, 3) := by decide +kernel
theorem d_L_law_1035 : decode code 1035 = .ok (.aload_n 1, 1) := by decide +kernel
theorem d_L_law_1036 : decode code 1036 = .ok (.aload_n 0, 1) := by decide +kernel
theorem d_L_law_1037 : decode code 1037 = .ok (.iload 4, 2) := by decide +kernel
theorem d_L_law_1039 : decode code 1039 = .ok (.iconst 1, 1) := by decide +kernel
theorem d_L_law_1040 : decode code 1040 = .ok (.iadd, 1) := by decide +kernel
theorem d_L_law_1041 : decode code 1041 = .ok (.iaload, 1) := by decide +kernel
theorem d_L_law_1042 : decode code 1042 = .ok (.aload_n 0, 1) := by decide +kernel
theorem d_L_law_1043 : decode code 1043 = .ok (.iload 4, 2) := by decide +kernel
theorem d_L_law_1045 : decode code 1045 = .ok (.iconst 2, 1) := by decide +kernel
theorem d_L_law_1046 : decode code 1046 = .ok (.iadd, 1) := by decide +kernel
theorem d_L_law_1047 : decode code 1047 = .ok (.iaload, 1) := by decide +kernel
theorem d_L_law_1048 : decode code 1048 = .ok (.aload_n 3, 1) := by decide +kernel
theorem d_L_law_1049 : decode code 1049 = .ok (.invokestatic 126, 3) := by decide +kernel
theorem d_L_law_1052 : decode code 1052 = .ok (.istore 5, 2) := by decide +kernel
theorem d_L_law_1054 : decode code 1054 = .ok (.aload_n 2, 1) := by decide +kernel
theorem d_L_law_1055 : decode code 1055 = .ok (.aload_n 0, 1) := by decide +kernel
theorem d_L_law_1056 : decode code 1056 = .ok (.iload 4, 2) := by decide +kernel
theorem d_L_law_1058 : decode code 1058 = .ok (.iconst 1, 1) := by decide +kernel
theorem d_L_law_1059 : decode code 1059 = .ok (.iadd, 1) := by decide +kernel
theorem d_L_law_1060 : decode code 1060 = .ok (.iaload, 1) := by decide +kernel
theorem d_L_law_1061 : decode code 1061 = .ok (.aload_n 0, 1) := by decide +kernel
theorem d_L_law_1062 : decode code 1062 = .ok (.iload 4, 2) := by decide +kernel
theorem d_L_law_1064 : decode code 1064 = .ok (.iconst 2, 1) := by decide +kernel
theorem d_L_law_1065 : decode code 1065 = .ok (.iadd, 1) := by decide +kernel
theorem d_L_law_1066 : decode code 1066 = .ok (.iaload, 1) := by decide +kernel
theorem d_L_law_1067 : decode code 1067 = .ok (.invokevirtual 128, 3) := by decide +kernel
theorem d_L_law_1070 : decode code 1070 = .ok (.istore 6, 2) := by decide +kernel
theorem d_L_law_1072 : decode code 1072 = .ok (.aload_n 2, 1) := by decide +kernel
theorem d_L_law_1073 : decode code 1073 = .ok (.invokevirtual 83, 3) := by decide +kernel
theorem d_L_law_1076 : decode code 1076 = .ok (.iload 5, 2) := by decide +kernel
theorem d_L_law_1078 : decode code 1078 = .ok (.if_icmp .eq 5, 3) := by decide +kernel
theorem d_L_law_1081 : decode code 1081 = .ok (.iconst 0, 1) := by decide +kernel
theorem d_L_law_1082 : decode code 1082 = .ok (.ireturn, 1) := by decide +kernel
theorem d_L_law_1083 : decode code 1083 = .ok (.iload 5, 2) := by decide +kernel
theorem d_L_law_1085 : decode code 1085 = .ok (.ifCond .ne 15, 3) := by decide +kernel
theorem d_L_law_1088 : decode code 1088 = .ok (.aload_n 3, 1) := by decide +kernel
theorem d_L_law_1089 : decode code 1089 = .ok (.iconst 0, 1) := by decide +kernel
theorem d_L_law_1090 : decode code 1090 = .ok (.laload, 1) := by decide +kernel
theorem d_L_law_1091 : decode code 1091 = .ok (.iload 6, 2) := by decide +kernel
theorem d_L_law_1093 : decode code 1093 = .ok (.i2l, 1) := by decide +kernel
theorem d_L_law_1094 : decode code 1094 = .ok (.lcmp, 1) := by decide +kernel
theorem d_L_law_1095 : decode code 1095 = .ok (.ifCond .eq 5, 3) := by decide +kernel
theorem d_L_law_1098 : decode code 1098 = .ok (.iconst 0, 1) := by decide +kernel
theorem d_L_law_1099 : decode code 1099 = .ok (.ireturn, 1) := by decide +kernel
theorem d_L_law_1100 : decode code 1100 = .ok (.goto 226, 3) := by decide +kernel
theorem d_L_law_1103 : decode code 1103 = .ok (.aload_n 1, 1) := by decide +kernel
theorem d_L_law_1104 : decode code 1104 = .ok (.aload_n 0, 1) := by decide +kernel
theorem d_L_law_1105 : decode code 1105 = .ok (.iload 4, 2) := by decide +kernel
theorem d_L_law_1107 : decode code 1107 = .ok (.iconst 1, 1) := by decide +kernel
theorem d_L_law_1108 : decode code 1108 = .ok (.iadd, 1) := by decide +kernel
theorem d_L_law_1109 : decode code 1109 = .ok (.iaload, 1) := by decide +kernel
theorem d_L_law_1110 : decode code 1110 = .ok (.aload_n 0, 1) := by decide +kernel
theorem d_L_law_1111 : decode code 1111 = .ok (.iload 4, 2) := by decide +kernel
theorem d_L_law_1113 : decode code 1113 = .ok (.iconst 2, 1) := by decide +kernel
theorem d_L_law_1114 : decode code 1114 = .ok (.iadd, 1) := by decide +kernel
theorem d_L_law_1115 : decode code 1115 = .ok (.iaload, 1) := by decide +kernel
theorem d_L_law_1116 : decode code 1116 = .ok (.aload_n 0, 1) := by decide +kernel
theorem d_L_law_1117 : decode code 1117 = .ok (.iload 4, 2) := by decide +kernel
theorem d_L_law_1119 : decode code 1119 = .ok (.iconst 3, 1) := by decide +kernel
theorem d_L_law_1120 : decode code 1120 = .ok (.iadd, 1) := by decide +kernel
theorem d_L_law_1121 : decode code 1121 = .ok (.iaload, 1) := by decide +kernel
theorem d_L_law_1122 : decode code 1122 = .ok (.aload_n 0, 1) := by decide +kernel
theorem d_L_law_1123 : decode code 1123 = .ok (.iload 4, 2) := by decide +kernel
theorem d_L_law_1125 : decode code 1125 = .ok (.iconst 4, 1) := by decide +kernel
theorem d_L_law_1126 : decode code 1126 = .ok (.iadd, 1) := by decide +kernel
theorem d_L_law_1127 : decode code 1127 = .ok (.iaload, 1) := by decide +kernel
theorem d_L_law_1128 : decode code 1128 = .ok (.aload_n 3, 1) := by decide +kernel
theorem d_L_law_1129 : decode code 1129 = .ok (.invokestatic 129, 3) := by decide +kernel
theorem d_L_law_1132 : decode code 1132 = .ok (.istore 5, 2) := by decide +kernel
theorem d_L_law_1134 : decode code 1134 = .ok (.aload_n 2, 1) := by decide +kernel
theorem d_L_law_1135 : decode code 1135 = .ok (.aload_n 0, 1) := by decide +kernel
theorem d_L_law_1136 : decode code 1136 = .ok (.iload 4, 2) := by decide +kernel
theorem d_L_law_1138 : decode code 1138 = .ok (.iconst 1, 1) := by decide +kernel
theorem d_L_law_1139 : decode code 1139 = .ok (.iadd, 1) := by decide +kernel
theorem d_L_law_1140 : decode code 1140 = .ok (.iaload, 1) := by decide +kernel
theorem d_L_law_1141 : decode code 1141 = .ok (.aload_n 0, 1) := by decide +kernel
theorem d_L_law_1142 : decode code 1142 = .ok (.iload 4, 2) := by decide +kernel
theorem d_L_law_1144 : decode code 1144 = .ok (.iconst 2, 1) := by decide +kernel
theorem d_L_law_1145 : decode code 1145 = .ok (.iadd, 1) := by decide +kernel
theorem d_L_law_1146 : decode code 1146 = .ok (.iaload, 1) := by decide +kernel
theorem d_L_law_1147 : decode code 1147 = .ok (.aload_n 0, 1) := by decide +kernel
theorem d_L_law_1148 : decode code 1148 = .ok (.iload 4, 2) := by decide +kernel
theorem d_L_law_1150 : decode code 1150 = .ok (.iconst 3, 1) := by decide +kernel
theorem d_L_law_1151 : decode code 1151 = .ok (.iadd, 1) := by decide +kernel
theorem d_L_law_1152 : decode code 1152 = .ok (.iaload, 1) := by decide +kernel
theorem d_L_law_1153 : decode code 1153 = .ok (.aload_n 0, 1) := by decide +kernel
theorem d_L_law_1154 : decode code 1154 = .ok (.iload 4, 2) := by decide +kernel
theorem d_L_law_1156 : decode code 1156 = .ok (.iconst 4, 1) := by decide +kernel
theorem d_L_law_1157 : decode code 1157 = .ok (.iadd, 1) := by decide +kernel
theorem d_L_law_1158 : decode code 1158 = .ok (.iaload, 1) := by decide +kernel
theorem d_L_law_1159 : decode code 1159 = .ok (.invokevirtual 131, 3) := by decide +kernel
theorem d_L_law_1162 : decode code 1162 = .ok (.istore 6, 2) := by decide +kernel
theorem d_L_law_1164 : decode code 1164 = .ok (.aload_n 2, 1) := by decide +kernel
theorem d_L_law_1165 : decode code 1165 = .ok (.invokevirtual 83, 3) := by decide +kernel
theorem d_L_law_1168 : decode code 1168 = .ok (.iload 5, 2) := by decide +kernel
theorem d_L_law_1170 : decode code 1170 = .ok (.if_icmp .eq 5, 3) := by decide +kernel
theorem d_L_law_1173 : decode code 1173 = .ok (.iconst 0, 1) := by decide +kernel
theorem d_L_law_1174 : decode code 1174 = .ok (.ireturn, 1) := by decide +kernel
theorem d_L_law_1175 : decode code 1175 = .ok (.iload 5, 2) := by decide +kernel
theorem d_L_law_1177 : decode code 1177 = .ok (.ifCond .ne 15, 3) := by decide +kernel
theorem d_L_law_1180 : decode code 1180 = .ok (.aload_n 3, 1) := by decide +kernel
theorem d_L_law_1181 : decode code 1181 = .ok (.iconst 0, 1) := by decide +kernel
theorem d_L_law_1182 : decode code 1182 = .ok (.laload, 1) := by decide +kernel
theorem d_L_law_1183 : decode code 1183 = .ok (.iload 6, 2) := by decide +kernel
theorem d_L_law_1185 : decode code 1185 = .ok (.i2l, 1) := by decide +kernel
theorem d_L_law_1186 : decode code 1186 = .ok (.lcmp, 1) := by decide +kernel
theorem d_L_law_1187 : decode code 1187 = .ok (.ifCond .eq 5, 3) := by decide +kernel
theorem d_L_law_1190 : decode code 1190 = .ok (.iconst 0, 1) := by decide +kernel
theorem d_L_law_1191 : decode code 1191 = .ok (.ireturn, 1) := by decide +kernel
theorem d_L_law_1192 : decode code 1192 = .ok (.goto 134, 3) := by decide +kernel
theorem d_L_law_1195 : decode code 1195 = .ok (.aload_n 1, 1) := by decide +kernel
theorem d_L_law_1196 : decode code 1196 = .ok (.aload_n 0, 1) := by decide +kernel
theorem d_L_law_1197 : decode code 1197 = .ok (.iload 4, 2) := by decide +kernel
theorem d_L_law_1199 : decode code 1199 = .ok (.iconst 1, 1) := by decide +kernel
theorem d_L_law_1200 : decode code 1200 = .ok (.iadd, 1) := by decide +kernel
theorem d_L_law_1201 : decode code 1201 = .ok (.iaload, 1) := by decide +kernel
theorem d_L_law_1202 : decode code 1202 = .ok (.aload_n 0, 1) := by decide +kernel
