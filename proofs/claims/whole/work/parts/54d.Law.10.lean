theorem d_Law_law_1059 : decode code 1059 = .ok (.invokevirtual 116, 3) := by decide +kernel
theorem d_Law_law_1062 : decode code 1062 = .ok (.aload_n 2, 1) := by decide +kernel
theorem d_Law_law_1063 : decode code 1063 = .ok (.aload_n 0, 1) := by decide +kernel
theorem d_Law_law_1064 : decode code 1064 = .ok (.iload 4, 2) := by decide +kernel
theorem d_Law_law_1066 : decode code 1066 = .ok (.iconst 1, 1) := by decide +kernel
theorem d_Law_law_1067 : decode code 1067 = .ok (.iadd, 1) := by decide +kernel
theorem d_Law_law_1068 : decode code 1068 = .ok (.iaload, 1) := by decide +kernel
theorem d_Law_law_1069 : decode code 1069 = .ok (.invokevirtual 120, 3) := by decide +kernel
theorem d_Law_law_1072 : decode code 1072 = .ok (.lcmp, 1) := by decide +kernel
theorem d_Law_law_1073 : decode code 1073 = .ok (.ifCond .eq 190, 3) := by decide +kernel
theorem d_Law_law_1076 : decode code 1076 = .ok (.iconst 0, 1) := by decide +kernel
theorem d_Law_law_1077 : decode code 1077 = .ok (.ireturn, 1) := by decide +kernel
theorem d_Law_law_1078 : decode code 1078 = .ok (.aload_n 1, 1) := by decide +kernel
theorem d_Law_law_1079 : decode code 1079 = .ok (.aload_n 0, 1) := by decide +kernel
theorem d_Law_law_1080 : decode code 1080 = .ok (.iload 4, 2) := by decide +kernel
theorem d_Law_law_1082 : decode code 1082 = .ok (.iconst 1, 1) := by decide +kernel
theorem d_Law_law_1083 : decode code 1083 = .ok (.iadd, 1) := by decide +kernel
theorem d_Law_law_1084 : decode code 1084 = .ok (.iaload, 1) := by decide +kernel
theorem d_Law_law_1085 : decode code 1085 = .ok (.aload_n 0, 1) := by decide +kernel
theorem d_Law_law_1086 : decode code 1086 = .ok (.iload 4, 2) := by decide +kernel
theorem d_Law_law_1088 : decode code 1088 = .ok (.iconst 2, 1) := by decide +kernel
theorem d_Law_law_1089 : decode code 1089 = .ok (.iadd, 1) := by decide +kernel
theorem d_Law_law_1090 : decode code 1090 = .ok (.iaload, 1) := by decide +kernel
theorem d_Law_law_1091 : decode code 1091 = .ok (.aload_n 0, 1) := by decide +kernel
theorem d_Law_law_1092 : decode code 1092 = .ok (.iload 4, 2) := by decide +kernel
theorem d_Law_law_1094 : decode code 1094 = .ok (.iconst 3, 1) := by decide +kernel
theorem d_Law_law_1095 : decode code 1095 = .ok (.iadd, 1) := by decide +kernel
theorem d_Law_law_1096 : decode code 1096 = .ok (.iaload, 1) := by decide +kernel
theorem d_Law_law_1097 : decode code 1097 = .ok (.aload_n 0, 1) := by decide +kernel
theorem d_Law_law_1098 : decode code 1098 = .ok (.iload 4, 2) := by decide +kernel
theorem d_Law_law_1100 : decode code 1100 = .ok (.iconst 4, 1) := by decide +kernel
theorem d_Law_law_1101 : decode code 1101 = .ok (.iadd, 1) := by decide +kernel
theorem d_Law_law_1102 : decode code 1102 = .ok (.iaload, 1) := by decide +kernel
theorem d_Law_law_1103 : decode code 1103 = .ok (.aload_n 3, 1) := by decide +kernel
theorem d_Law_law_1104 : decode code 1104 = .ok (.invokestatic 121, 3) := by decide +kernel
theorem d_Law_law_1107 : decode code 1107 = .ok (.istore 5, 2) := by decide +kernel
theorem d_Law_law_1109 : decode code 1109 = .ok (.aload_n 2, 1) := by decide +kernel
theorem d_Law_law_1110 : decode code 1110 = .ok (.aload_n 0, 1) := by decide +kernel
theorem d_Law_law_1111 : decode code 1111 = .ok (.iload 4, 2) := by decide +kernel
theorem d_Law_law_1113 : decode code 1113 = .ok (.iconst 1, 1) := by decide +kernel
theorem d_Law_law_1114 : decode code 1114 = .ok (.iadd, 1) := by decide +kernel
theorem d_Law_law_1115 : decode code 1115 = .ok (.iaload, 1) := by decide +kernel
theorem d_Law_law_1116 : decode code 1116 = .ok (.aload_n 0, 1) := by decide +kernel
theorem d_Law_law_1117 : decode code 1117 = .ok (.iload 4, 2) := by decide +kernel
theorem d_Law_law_1119 : decode code 1119 = .ok (.iconst 2, 1) := by decide +kernel
theorem d_Law_law_1120 : decode code 1120 = .ok (.iadd, 1) := by decide +kernel
theorem d_Law_law_1121 : decode code 1121 = .ok (.iaload, 1) := by decide +kernel
theorem d_Law_law_1122 : decode code 1122 = .ok (.aload_n 0, 1) := by decide +kernel
theorem d_Law_law_1123 : decode code 1123 = .ok (.iload 4, 2) := by decide +kernel
theorem d_Law_law_1125 : decode code 1125 = .ok (.iconst 3, 1) := by decide +kernel
theorem d_Law_law_1126 : decode code 1126 = .ok (.iadd, 1) := by decide +kernel
theorem d_Law_law_1127 : decode code 1127 = .ok (.iaload, 1) := by decide +kernel
theorem d_Law_law_1128 : decode code 1128 = .ok (.aload_n 0, 1) := by decide +kernel
theorem d_Law_law_1129 : decode code 1129 = .ok (.iload 4, 2) := by decide +kernel
theorem d_Law_law_1131 : decode code 1131 = .ok (.iconst 4, 1) := by decide +kernel
theorem d_Law_law_1132 : decode code 1132 = .ok (.iadd, 1) := by decide +kernel
theorem d_Law_law_1133 : decode code 1133 = .ok (.iaload, 1) := by decide +kernel
theorem d_Law_law_1134 : decode code 1134 = .ok (.invokevirtual 123, 3) := by decide +kernel
theorem d_Law_law_1137 : decode code 1137 = .ok (.istore 6, 2) := by decide +kernel
theorem d_Law_law_1139 : decode code 1139 = .ok (.aload_n 2, 1) := by decide +kernel
theorem d_Law_law_1140 : decode code 1140 = .ok (.invokevirtual 71, 3) := by decide +kernel
theorem d_Law_law_1143 : decode code 1143 = .ok (.iload 5, 2) := by decide +kernel
theorem d_Law_law_1145 : decode code 1145 = .ok (.if_icmp .eq 5, 3) := by decide +kernel
theorem d_Law_law_1148 : decode code 1148 = .ok (.iconst 0, 1) := by decide +kernel
theorem d_Law_law_1149 : decode code 1149 = .ok (.ireturn, 1) := by decide +kernel
theorem d_Law_law_1150 : decode code 1150 = .ok (.iload 5, 2) := by decide +kernel
theorem d_Law_law_1152 : decode code 1152 = .ok (.ifCond .ne 15, 3) := by decide +kernel
theorem d_Law_law_1155 : decode code 1155 = .ok (.aload_n 3, 1) := by decide +kernel
theorem d_Law_law_1156 : decode code 1156 = .ok (.iconst 0, 1) := by decide +kernel
theorem d_Law_law_1157 : decode code 1157 = .ok (.laload, 1) := by decide +kernel
theorem d_Law_law_1158 : decode code 1158 = .ok (.iload 6, 2) := by decide +kernel
theorem d_Law_law_1160 : decode code 1160 = .ok (.i2l, 1) := by decide +kernel
theorem d_Law_law_1161 : decode code 1161 = .ok (.lcmp, 1) := by decide +kernel
theorem d_Law_law_1162 : decode code 1162 = .ok (.ifCond .eq 5, 3) := by decide +kernel
theorem d_Law_law_1165 : decode code 1165 = .ok (.iconst 0, 1) := by decide +kernel
theorem d_Law_law_1166 : decode code 1166 = .ok (.ireturn, 1) := by decide +kernel
theorem d_Law_law_1167 : decode code 1167 = .ok (.goto 96, 3) := by decide +kernel
theorem d_Law_law_1170 : decode code 1170 = .ok (.aload_n 1, 1) := by decide +kernel
theorem d_Law_law_1171 : decode code 1171 = .ok (.aload_n 0, 1) := by decide +kernel
theorem d_Law_law_1172 : decode code 1172 = .ok (.iload 4, 2) := by decide +kernel
theorem d_Law_law_1174 : decode code 1174 = .ok (.iconst 1, 1) := by decide +kernel
theorem d_Law_law_1175 : decode code 1175 = .ok (.iadd, 1) := by decide +kernel
theorem d_Law_law_1176 : decode code 1176 = .ok (.iaload, 1) := by decide +kernel
theorem d_Law_law_1177 : decode code 1177 = .ok (.aload_n 0, 1) := by decide +kernel
theorem d_Law_law_1178 : decode code 1178 = .ok (.iload 4, 2) := by decide +kernel
theorem d_Law_law_1180 : decode code 1180 = .ok (.iconst 2, 1) := by decide +kernel
theorem d_Law_law_1181 : decode code 1181 = .ok (.iadd, 1) := by decide +kernel
theorem d_Law_law_1182 : decode code 1182 = .ok (.iaload, 1) := by decide +kernel
theorem d_Law_law_1183 : decode code 1183 = .ok (.aload_n 0, 1) := by decide +kernel
theorem d_Law_law_1184 : decode code 1184 = .ok (.iload 4, 2) := by decide +kernel
theorem d_Law_law_1186 : decode code 1186 = .ok (.iconst 3, 1) := by decide +kernel
theorem d_Law_law_1187 : decode code 1187 = .ok (.iadd, 1) := by decide +kernel
theorem d_Law_law_1188 : decode code 1188 = .ok (.iaload, 1) := by decide +kernel
theorem d_Law_law_1189 : decode code 1189 = .ok (.aload_n 3, 1) := by decide +kernel
theorem d_Law_law_1190 : decode code 1190 = .ok (.invokestatic 124, 3) := by decide +kernel
theorem d_Law_law_1193 : decode code 1193 = .ok (.istore 5, 2) := by decide +kernel
theorem d_Law_law_1195 : decode code 1195 = .ok (.aload_n 2, 1) := by decide +kernel
theorem d_Law_law_1196 : decode code 1196 = .ok (.aload_n 0, 1) := by decide +kernel
theorem d_Law_law_1197 : decode code 1197 = .ok (.iload 4, 2) := by decide +kernel
theorem d_Law_law_1199 : decode code 1199 = .ok (.iconst 1, 1) := by decide +kernel
