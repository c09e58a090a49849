theorem d_L_law_1203 : decode code 1203 = .ok (.iload 4, 2) := by decide +kernel
theorem d_L_law_1205 : decode code 1205 = .ok (.iconst 2, 1) := by decide +kernel
theorem d_L_law_1206 : decode code 1206 = .ok (.iadd, 1) := by decide +kernel
theorem d_L_law_1207 : decode code 1207 = .ok (.iaload, 1) := by decide +kernel
theorem d_L_law_1208 : decode code 1208 = .ok (.aload_n 3, 1) := by decide +kernel
theorem d_L_law_1209 : decode code 1209 = .ok (.invokestatic 132, 3) := by decide +kernel
theorem d_L_law_1212 : decode code 1212 = .ok (.istore 5, 2) := by decide +kernel
theorem d_L_law_1214 : decode code 1214 = .ok (.aload_n 2, 1) := by decide +kernel
theorem d_L_law_1215 : decode code 1215 = .ok (.aload_n 0, 1) := by decide +kernel
theorem d_L_law_1216 : decode code 1216 = .ok (.iload 4, 2) := by decide +kernel
theorem d_L_law_1218 : decode code 1218 = .ok (.iconst 1, 1) := by decide +kernel
theorem d_L_law_1219 : decode code 1219 = .ok (.iadd, 1) := by decide +kernel
theorem d_L_law_1220 : decode code 1220 = .ok (.iaload, 1) := by decide +kernel
theorem d_L_law_1221 : decode code 1221 = .ok (.aload_n 0, 1) := by decide +kernel
theorem d_L_law_1222 : decode code 1222 = .ok (.iload 4, 2) := by decide +kernel
theorem d_L_law_1224 : decode code 1224 = .ok (.iconst 2, 1) := by decide +kernel
theorem d_L_law_1225 : decode code 1225 = .ok (.iadd, 1) := by decide +kernel
theorem d_L_law_1226 : decode code 1226 = .ok (.iaload, 1) := by decide +kernel
theorem d_L_law_1227 : decode code 1227 = .ok (.invokevirtual 134, 3) := by decide +kernel
theorem d_L_law_1230 : decode code 1230 = .ok (.istore 6, 2) := by decide +kernel
theorem d_L_law_1232 : decode code 1232 = .ok (.aload_n 2, 1) := by decide +kernel
theorem d_L_law_1233 : decode code 1233 = .ok (.invokevirtual 83, 3) := by decide +kernel
theorem d_L_law_1236 : decode code 1236 = .ok (.iload 5, 2) := by decide +kernel
theorem d_L_law_1238 : decode code 1238 = .ok (.if_icmp .eq 5, 3) := by decide +kernel
theorem d_L_law_1241 : decode code 1241 = .ok (.iconst 0, 1) := by decide +kernel
theorem d_L_law_1242 : decode code 1242 = .ok (.ireturn, 1) := by decide +kernel
theorem d_L_law_1243 : decode code 1243 = .ok (.iload 5, 2) := by decide +kernel
theorem d_L_law_1245 : decode code 1245 = .ok (.ifCond .ne 22, 3) := by decide +kernel
theorem d_L_law_1248 : decode code 1248 = .ok (.aload_n 3, 1) := by decide +kernel
theorem d_L_law_1249 : decode code 1249 = .ok (.iconst 0, 1) := by decide +kernel
theorem d_L_law_1250 : decode code 1250 = .ok (.laload, 1) := by decide +kernel
theorem d_L_law_1251 : decode code 1251 = .ok (.iload 6, 2) := by decide +kernel
theorem d_L_law_1253 : decode code 1253 = .ok (.ifCond .eq 7, 3) := by decide +kernel
theorem d_L_law_1256 : decode code 1256 = .ok (.lconst 1, 1) := by decide +kernel
theorem d_L_law_1257 : decode code 1257 = .ok (.goto 4, 3) := by decide +kernel
theorem d_L_law_1260 : decode code 1260 = .ok (.lconst 0, 1) := by decide +kernel
theorem d_L_law_1261 : decode code 1261 = .ok (.lcmp, 1) := by decide +kernel
theorem d_L_law_1262 : decode code 1262 = .ok (.ifCond .eq 5, 3) := by decide +kernel
theorem d_L_law_1265 : decode code 1265 = .ok (.iconst 0, 1) := by decide +kernel
theorem d_L_law_1266 : decode code 1266 = .ok (.ireturn, 1) := by decide +kernel
theorem d_L_law_1267 : decode code 1267 = .ok (.goto 59, 3) := by decide +kernel
theorem d_L_law_1270 : decode code 1270 = .ok (.aload_n 1, 1) := by decide +kernel
theorem d_L_law_1271 : decode code 1271 = .ok (.aload_n 0, 1) := by decide +kernel
theorem d_L_law_1272 : decode code 1272 = .ok (.iload 4, 2) := by decide +kernel
theorem d_L_law_1274 : decode code 1274 = .ok (.iconst 1, 1) := by decide +kernel
theorem d_L_law_1275 : decode code 1275 = .ok (.iadd, 1) := by decide +kernel
theorem d_L_law_1276 : decode code 1276 = .ok (.iaload, 1) := by decide +kernel
theorem d_L_law_1277 : decode code 1277 = .ok (.aload_n 3, 1) := by decide +kernel
theorem d_L_law_1278 : decode code 1278 = .ok (.invokestatic 135, 3) := by decide +kernel
theorem d_L_law_1281 : decode code 1281 = .ok (.istore 5, 2) := by decide +kernel
theorem d_L_law_1283 : decode code 1283 = .ok (.aload_n 2, 1) := by decide +kernel
theorem d_L_law_1284 : decode code 1284 = .ok (.aload_n 0, 1) := by decide +kernel
theorem d_L_law_1285 : decode code 1285 = .ok (.iload 4, 2) := by decide +kernel
theorem d_L_law_1287 : decode code 1287 = .ok (.iconst 1, 1) := by decide +kernel
theorem d_L_law_1288 : decode code 1288 = .ok (.iadd, 1) := by decide +kernel
theorem d_L_law_1289 : decode code 1289 = .ok (.iaload, 1) := by decide +kernel
theorem d_L_law_1290 : decode code 1290 = .ok (.invokevirtual 137, 3) := by decide +kernel
theorem d_L_law_1293 : decode code 1293 = .ok (.istore 6, 2) := by decide +kernel
theorem d_L_law_1295 : decode code 1295 = .ok (.aload_n 2, 1) := by decide +kernel
theorem d_L_law_1296 : decode code 1296 = .ok (.invokevirtual 83, 3) := by decide +kernel
theorem d_L_law_1299 : decode code 1299 = .ok (.iload 5, 2) := by decide +kernel
theorem d_L_law_1301 : decode code 1301 = .ok (.if_icmp .eq 5, 3) := by decide +kernel
theorem d_L_law_1304 : decode code 1304 = .ok (.iconst 0, 1) := by decide +kernel
theorem d_L_law_1305 : decode code 1305 = .ok (.ireturn, 1) := by decide +kernel
theorem d_L_law_1306 : decode code 1306 = .ok (.iload 5, 2) := by decide +kernel
theorem d_L_law_1308 : decode code 1308 = .ok (.ifCond .ne 15, 3) := by decide +kernel
theorem d_L_law_1311 : decode code 1311 = .ok (.aload_n 3, 1) := by decide +kernel
theorem d_L_law_1312 : decode code 1312 = .ok (.iconst 0, 1) := by decide +kernel
theorem d_L_law_1313 : decode code 1313 = .ok (.laload, 1) := by decide +kernel
theorem d_L_law_1314 : decode code 1314 = .ok (.iload 6, 2) := by decide +kernel
theorem d_L_law_1316 : decode code 1316 = .ok (.i2l, 1) := by decide +kernel
theorem d_L_law_1317 : decode code 1317 = .ok (.lcmp, 1) := by decide +kernel
theorem d_L_law_1318 : decode code 1318 = .ok (.ifCond .eq 5, 3) := by decide +kernel
theorem d_L_law_1321 : decode code 1321 = .ok (.iconst 0, 1) := by decide +kernel
theorem d_L_law_1322 : decode code 1322 = .ok (.ireturn, 1) := by decide +kernel
theorem d_L_law_1323 : decode code 1323 = .ok (.goto 3, 3) := by decide +kernel
theorem d_L_law_1326 : decode code 1326 = .ok (.iinc 4 5, 3) := by decide +kernel
theorem d_L_law_1329 : decode code 1329 = .ok (.goto (-1306), 3) := by decide +kernel
theorem d_L_law_1332 : decode code 1332 = .ok (.iconst 1, 1) := by decide +kernel
theorem d_L_law_1333 : decode code 1333 = .ok (.ireturn, 1) := by decide +kernel
