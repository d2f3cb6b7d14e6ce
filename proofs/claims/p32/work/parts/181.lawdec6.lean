theorem dl_1064 : decode code 1064 = .ok (.pop, 1) := by decide +kernel
theorem dl_1065 : decode code 1065 = .ok (.goto 160, 3) := by decide +kernel
theorem dl_1068 : decode code 1068 = .ok (.aload_n 1, 1) := by decide +kernel
theorem dl_1069 : decode code 1069 = .ok (.aload_n 0, 1) := by decide +kernel
theorem dl_1070 : decode code 1070 = .ok (.iload_n 3, 1) := by decide +kernel
theorem dl_1071 : decode code 1071 = .ok (.iconst 1, 1) := by decide +kernel
theorem dl_1072 : decode code 1072 = .ok (.iadd, 1) := by decide +kernel
theorem dl_1073 : decode code 1073 = .ok (.iaload, 1) := by decide +kernel
theorem dl_1074 : decode code 1074 = .ok (.invokevirtual 133, 3) := by decide +kernel
theorem dl_1077 : decode code 1077 = .ok (.pop, 1) := by decide +kernel
theorem dl_1078 : decode code 1078 = .ok (.aload_n 2, 1) := by decide +kernel
theorem dl_1079 : decode code 1079 = .ok (.aload_n 0, 1) := by decide +kernel
theorem dl_1080 : decode code 1080 = .ok (.iload_n 3, 1) := by decide +kernel
theorem dl_1081 : decode code 1081 = .ok (.iconst 1, 1) := by decide +kernel
theorem dl_1082 : decode code 1082 = .ok (.iadd, 1) := by decide +kernel
theorem dl_1083 : decode code 1083 = .ok (.iaload, 1) := by decide +kernel
theorem dl_1084 : decode code 1084 = .ok (.invokevirtual 136, 3) := by decide +kernel
theorem dl_1087 : decode code 1087 = .ok (.pop, 1) := by decide +kernel
theorem dl_1088 : decode code 1088 = .ok (.goto 137, 3) := by decide +kernel
theorem dl_1091 : decode code 1091 = .ok (.aload_n 1, 1) := by decide +kernel
theorem dl_1092 : decode code 1092 = .ok (.invokevirtual 137, 3) := by decide +kernel
theorem dl_1095 : decode code 1095 = .ok (.pop, 1) := by decide +kernel
theorem dl_1096 : decode code 1096 = .ok (.aload_n 2, 1) := by decide +kernel
theorem dl_1097 : decode code 1097 = .ok (.invokevirtual 140, 3) := by decide +kernel
theorem dl_1100 : decode code 1100 = .ok (.pop, 1) := by decide +kernel
theorem dl_1101 : decode code 1101 = .ok (.goto 124, 3) := by decide +kernel
theorem dl_1104 : decode code 1104 = .ok (.aload_n 1, 1) := by decide +kernel
theorem dl_1105 : decode code 1105 = .ok (.aload_n 0, 1) := by decide +kernel
theorem dl_1106 : decode code 1106 = .ok (.iload_n 3, 1) := by decide +kernel
theorem dl_1107 : decode code 1107 = .ok (.iconst 1, 1) := by decide +kernel
theorem dl_1108 : decode code 1108 = .ok (.iadd, 1) := by decide +kernel
theorem dl_1109 : decode code 1109 = .ok (.iaload, 1) := by decide +kernel
theorem dl_1110 : decode code 1110 = .ok (.invokevirtual 141, 3) := by decide +kernel
theorem dl_1113 : decode code 1113 = .ok (.aload_n 2, 1) := by decide +kernel
theorem dl_1114 : decode code 1114 = .ok (.aload_n 0, 1) := by decide +kernel
theorem dl_1115 : decode code 1115 = .ok (.iload_n 3, 1) := by decide +kernel
theorem dl_1116 : decode code 1116 = .ok (.iconst 1, 1) := by decide +kernel
theorem dl_1117 : decode code 1117 = .ok (.iadd, 1) := by decide +kernel
theorem dl_1118 : decode code 1118 = .ok (.iaload, 1) := by decide +kernel
theorem dl_1119 : decode code 1119 = .ok (.invokevirtual 144, 3) := by decide +kernel
theorem dl_1122 : decode code 1122 = .ok (.if_icmp .eq 103, 3) := by decide +kernel
theorem dl_1127 : decode code 1127 = .ok (.aload_n 1, 1) := by decide +kernel
theorem dl_1128 : decode code 1128 = .ok (.invokevirtual 145, 3) := by decide +kernel
theorem dl_1131 : decode code 1131 = .ok (.pop, 1) := by decide +kernel
theorem dl_1132 : decode code 1132 = .ok (.aload_n 2, 1) := by decide +kernel
theorem dl_1133 : decode code 1133 = .ok (.invokevirtual 148, 3) := by decide +kernel
theorem dl_1136 : decode code 1136 = .ok (.pop, 1) := by decide +kernel
theorem dl_1137 : decode code 1137 = .ok (.goto 88, 3) := by decide +kernel
theorem dl_1140 : decode code 1140 = .ok (.aload_n 1, 1) := by decide +kernel
theorem dl_1141 : decode code 1141 = .ok (.invokevirtual 149, 3) := by decide +kernel
theorem dl_1144 : decode code 1144 = .ok (.pop2, 1) := by decide +kernel
theorem dl_1145 : decode code 1145 = .ok (.aload_n 2, 1) := by decide +kernel
theorem dl_1146 : decode code 1146 = .ok (.invokevirtual 153, 3) := by decide +kernel
theorem dl_1149 : decode code 1149 = .ok (.pop2, 1) := by decide +kernel
theorem dl_1150 : decode code 1150 = .ok (.goto 75, 3) := by decide +kernel
theorem dl_1153 : decode code 1153 = .ok (.aload_n 1, 1) := by decide +kernel
theorem dl_1154 : decode code 1154 = .ok (.invokevirtual 154, 3) := by decide +kernel
theorem dl_1157 : decode code 1157 = .ok (.pop, 1) := by decide +kernel
theorem dl_1158 : decode code 1158 = .ok (.aload_n 2, 1) := by decide +kernel
theorem dl_1159 : decode code 1159 = .ok (.invokevirtual 157, 3) := by decide +kernel
theorem dl_1162 : decode code 1162 = .ok (.pop, 1) := by decide +kernel
theorem dl_1163 : decode code 1163 = .ok (.goto 62, 3) := by decide +kernel
theorem dl_1166 : decode code 1166 = .ok (.aload_n 1, 1) := by decide +kernel
theorem dl_1167 : decode code 1167 = .ok (.aload_n 0, 1) := by decide +kernel
theorem dl_1168 : decode code 1168 = .ok (.iload_n 3, 1) := by decide +kernel
theorem dl_1169 : decode code 1169 = .ok (.iconst 1, 1) := by decide +kernel
theorem dl_1170 : decode code 1170 = .ok (.iadd, 1) := by decide +kernel
theorem dl_1171 : decode code 1171 = .ok (.iaload, 1) := by decide +kernel
theorem dl_1172 : decode code 1172 = .ok (.invokevirtual 158, 3) := by decide +kernel
theorem dl_1175 : decode code 1175 = .ok (.pop, 1) := by decide +kernel
theorem dl_1176 : decode code 1176 = .ok (.aload_n 2, 1) := by decide +kernel
theorem dl_1177 : decode code 1177 = .ok (.aload_n 0, 1) := by decide +kernel
theorem dl_1178 : decode code 1178 = .ok (.iload_n 3, 1) := by decide +kernel
theorem dl_1179 : decode code 1179 = .ok (.iconst 1, 1) := by decide +kernel
theorem dl_1180 : decode code 1180 = .ok (.iadd, 1) := by decide +kernel
theorem dl_1181 : decode code 1181 = .ok (.iaload, 1) := by decide +kernel
theorem dl_1182 : decode code 1182 = .ok (.invokevirtual 161, 3) := by decide +kernel
theorem dl_1185 : decode code 1185 = .ok (.pop, 1) := by decide +kernel
theorem dl_1186 : decode code 1186 = .ok (.goto 39, 3) := by decide +kernel
theorem dl_1189 : decode code 1189 = .ok (.aload_n 1, 1) := by decide +kernel
theorem dl_1190 : decode code 1190 = .ok (.invokevirtual 162, 3) := by decide +kernel
theorem dl_1193 : decode code 1193 = .ok (.pop, 1) := by decide +kernel
theorem dl_1194 : decode code 1194 = .ok (.aload_n 2, 1) := by decide +kernel
theorem dl_1195 : decode code 1195 = .ok (.invokevirtual 165, 3) := by decide +kernel
theorem dl_1198 : decode code 1198 = .ok (.pop, 1) := by decide +kernel
theorem dl_1199 : decode code 1199 = .ok (.goto 26, 3) := by decide +kernel
theorem dl_1202 : decode code 1202 = .ok (.aload_n 1, 1) := by decide +kernel
theorem dl_1203 : decode code 1203 = .ok (.aload_n 0, 1) := by decide +kernel
theorem dl_1204 : decode code 1204 = .ok (.iload_n 3, 1) := by decide +kernel
theorem dl_1205 : decode code 1205 = .ok (.iconst 1, 1) := by decide +kernel
theorem dl_1206 : decode code 1206 = .ok (.iadd, 1) := by decide +kernel
theorem dl_1207 : decode code 1207 = .ok (.iaload, 1) := by decide +kernel
theorem dl_1208 : decode code 1208 = .ok (.invokevirtual 166, 3) := by decide +kernel
theorem dl_1211 : decode code 1211 = .ok (.pop, 1) := by decide +kernel
theorem dl_1212 : decode code 1212 = .ok (.aload_n 2, 1) := by decide +kernel
theorem dl_1213 : decode code 1213 = .ok (.aload_n 0, 1) := by decide +kernel
theorem dl_1214 : decode code 1214 = .ok (.iload_n 3, 1) := by decide +kernel
theorem dl_1215 : decode code 1215 = .ok (.iconst 1, 1) := by decide +kernel
theorem dl_1216 : decode code 1216 = .ok (.iadd, 1) := by decide +kernel
theorem dl_1217 : decode code 1217 = .ok (.iaload, 1) := by decide +kernel
theorem dl_1218 : decode code 1218 = .ok (.invokevirtual 169, 3) := by decide +kernel
theorem dl_1221 : decode code 1221 = .ok (.pop, 1) := by decide +kernel
theorem dl_1222 : decode code 1222 = .ok (.goto 3, 3) := by decide +kernel
theorem dl_1225 : decode code 1225 = .ok (.iinc 3 6, 3) := by decide +kernel
theorem dl_1228 : decode code 1228 = .ok (.goto (-1210), 3) := by decide +kernel
theorem dl_1231 : decode code 1231 = .ok (.iconst 1, 1) := by decide +kernel
theorem dl_1232 : decode code 1232 = .ok (.ireturn, 1) := by decide +kernel
