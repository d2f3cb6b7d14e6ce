theorem dl_1170 : decode code 1170 = .ok (.iconst 1, 1) := by decide +kernel
theorem dl_1171 : decode code 1171 = .ok (.iadd, 1) := by decide +kernel
theorem dl_1172 : decode code 1172 = .ok (.iaload, 1) := by decide +kernel
theorem dl_1173 : decode code 1173 = .ok (.invokevirtual 158, 3) := by decide +kernel
theorem dl_1176 : decode code 1176 = .ok (.aload_n 2, 1) := by decide +kernel
theorem dl_1177 : decode code 1177 = .ok (.aload_n 0, 1) := by decide +kernel
theorem dl_1178 : decode code 1178 = .ok (.iload_n 3, 1) := by decide +kernel
theorem dl_1179 : decode code 1179 = .ok (.iconst 1, 1) := by decide +kernel
theorem dl_1180 : decode code 1180 = .ok (.iadd, 1) := by decide +kernel
theorem dl_1181 : decode code 1181 = .ok (.iaload, 1) := by decide +kernel
theorem dl_1182 : decode code 1182 = .ok (.invokevirtual 161, 3) := by decide +kernel
theorem dl_1185 : decode code 1185 = .ok (.if_icmp .eq 41, 3) := by decide +kernel
theorem dl_1190 : decode code 1190 = .ok (.aload_n 1, 1) := by decide +kernel
theorem dl_1191 : decode code 1191 = .ok (.invokevirtual 162, 3) := by decide +kernel
theorem dl_1194 : decode code 1194 = .ok (.aload_n 2, 1) := by decide +kernel
theorem dl_1195 : decode code 1195 = .ok (.invokevirtual 165, 3) := by decide +kernel
theorem dl_1198 : decode code 1198 = .ok (.if_icmp .eq 28, 3) := by decide +kernel
theorem dl_1203 : decode code 1203 = .ok (.aload_n 1, 1) := by decide +kernel
theorem dl_1204 : decode code 1204 = .ok (.aload_n 0, 1) := by decide +kernel
theorem dl_1205 : decode code 1205 = .ok (.iload_n 3, 1) := by decide +kernel
theorem dl_1206 : decode code 1206 = .ok (.iconst 1, 1) := by decide +kernel
theorem dl_1207 : decode code 1207 = .ok (.iadd, 1) := by decide +kernel
theorem dl_1208 : decode code 1208 = .ok (.iaload, 1) := by decide +kernel
theorem dl_1209 : decode code 1209 = .ok (.invokevirtual 166, 3) := by decide +kernel
theorem dl_1212 : decode code 1212 = .ok (.aload_n 2, 1) := by decide +kernel
theorem dl_1213 : decode code 1213 = .ok (.aload_n 0, 1) := by decide +kernel
theorem dl_1214 : decode code 1214 = .ok (.iload_n 3, 1) := by decide +kernel
theorem dl_1215 : decode code 1215 = .ok (.iconst 1, 1) := by decide +kernel
theorem dl_1216 : decode code 1216 = .ok (.iadd, 1) := by decide +kernel
theorem dl_1217 : decode code 1217 = .ok (.iaload, 1) := by decide +kernel
theorem dl_1218 : decode code 1218 = .ok (.invokevirtual 169, 3) := by decide +kernel
theorem dl_1221 : decode code 1221 = .ok (.if_icmp .eq 5, 3) := by decide +kernel
theorem dl_1226 : decode code 1226 = .ok (.iinc 3 6, 3) := by decide +kernel
theorem dl_1229 : decode code 1229 = .ok (.goto (-1211), 3) := by decide +kernel
theorem dl_1232 : decode code 1232 = .ok (.iconst 1, 1) := by decide +kernel
theorem dl_1233 : decode code 1233 = .ok (.ireturn, 1) := by decide +kernel
