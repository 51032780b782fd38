theorem d_Law_law_1200 : decode code 1200 = .ok (.iadd, 1) := by decide +kernel
theorem d_Law_law_1201 : decode code 1201 = .ok (.iaload, 1) := by decide +kernel
theorem d_Law_law_1202 : decode code 1202 = .ok (.aload_n 0, 1) := by decide +kernel
theorem d_Law_law_1203 : decode code 1203 = .ok (.iload 4, 2) := by decide +kernel
theorem d_Law_law_1205 : decode code 1205 = .ok (.iconst 2, 1) := by decide +kernel
theorem d_Law_law_1206 : decode code 1206 = .ok (.iadd, 1) := by decide +kernel
theorem d_Law_law_1207 : decode code 1207 = .ok (.iaload, 1) := by decide +kernel
theorem d_Law_law_1208 : decode code 1208 = .ok (.aload_n 0, 1) := by decide +kernel
theorem d_Law_law_1209 : decode code 1209 = .ok (.iload 4, 2) := by decide +kernel
theorem d_Law_law_1211 : decode code 1211 = .ok (.iconst 3, 1) := by decide +kernel
theorem d_Law_law_1212 : decode code 1212 = .ok (.iadd, 1) := by decide +kernel
theorem d_Law_law_1213 : decode code 1213 = .ok (.iaload, 1) := by decide +kernel
theorem d_Law_law_1214 : decode code 1214 = .ok (.invokevirtual 126, 3) := by decide +kernel
theorem d_Law_law_1217 : decode code 1217 = .ok (.istore 6, 2) := by decide +kernel
theorem d_Law_law_1219 : decode code 1219 = .ok (.aload_n 2, 1) := by decide +kernel
theorem d_Law_law_1220 : decode code 1220 = .ok (.invokevirtual 71, 3) := by decide +kernel
theorem d_Law_law_1223 : decode code 1223 = .ok (.iload 5, 2) := by decide +kernel
theorem d_Law_law_1225 : decode code 1225 = .ok (.if_icmp .eq 5, 3) := by decide +kernel
theorem d_Law_law_1228 : decode code 1228 = .ok (.iconst 0, 1) := by decide +kernel
theorem d_Law_law_1229 : decode code 1229 = .ok (.ireturn, 1) := by decide +kernel
theorem d_Law_law_1230 : decode code 1230 = .ok (.iload 5, 2) := by decide +kernel
theorem d_Law_law_1232 : decode code 1232 = .ok (.ifCond .ne 15, 3) := by decide +kernel
theorem d_Law_law_1235 : decode code 1235 = .ok (.aload_n 3, 1) := by decide +kernel
theorem d_Law_law_1236 : decode code 1236 = .ok (.iconst 0, 1) := by decide +kernel
theorem d_Law_law_1237 : decode code 1237 = .ok (.laload, 1) := by decide +kernel
theorem d_Law_law_1238 : decode code 1238 = .ok (.iload 6, 2) := by decide +kernel
theorem d_Law_law_1240 : decode code 1240 = .ok (.i2l, 1) := by decide +kernel
theorem d_Law_law_1241 : decode code 1241 = .ok (.lcmp, 1) := by decide +kernel
theorem d_Law_law_1242 : decode code 1242 = .ok (.ifCond .eq 5, 3) := by decide +kernel
theorem d_Law_law_1245 : decode code 1245 = .ok (.iconst 0, 1) := by decide +kernel
theorem d_Law_law_1246 : decode code 1246 = .ok (.ireturn, 1) := by decide +kernel
theorem d_Law_law_1247 : decode code 1247 = .ok (.goto 16, 3) := by decide +kernel
theorem d_Law_law_1250 : decode code 1250 = .ok (.aload_n 1, 1) := by decide +kernel
theorem d_Law_law_1251 : decode code 1251 = .ok (.invokevirtual 127, 3) := by decide +kernel
theorem d_Law_law_1254 : decode code 1254 = .ok (.aload_n 2, 1) := by decide +kernel
theorem d_Law_law_1255 : decode code 1255 = .ok (.invokevirtual 130, 3) := by decide +kernel
theorem d_Law_law_1258 : decode code 1258 = .ok (.if_icmp .eq 5, 3) := by decide +kernel
theorem d_Law_law_1261 : decode code 1261 = .ok (.iconst 0, 1) := by decide +kernel
theorem d_Law_law_1262 : decode code 1262 = .ok (.ireturn, 1) := by decide +kernel
theorem d_Law_law_1263 : decode code 1263 = .ok (.iinc 4 5, 3) := by decide +kernel
theorem d_Law_law_1266 : decode code 1266 = .ok (.goto (-1243), 3) := by decide +kernel
theorem d_Law_law_1269 : decode code 1269 = .ok (.iconst 1, 1) := by decide +kernel
theorem d_Law_law_1270 : decode code 1270 = .ok (.ireturn, 1) := by decide +kernel
