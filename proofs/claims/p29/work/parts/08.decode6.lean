theorem dL_law_1119 : decode cL_law 1119 = .ok (.iinc 24 1, 3) := by decide +kernel
theorem dL_law_1122 : decode cL_law 1122 = .ok (.goto (-22), 3) := by decide +kernel
theorem dL_law_1125 : decode cL_law 1125 = .ok (.aload_n 1, 1) := by decide +kernel
theorem dL_law_1126 : decode cL_law 1126 = .ok (.iconst 1, 1) := by decide +kernel
theorem dL_law_1127 : decode cL_law 1127 = .ok (.aload 16, 2) := by decide +kernel
theorem dL_law_1129 : decode cL_law 1129 = .ok (.invokestatic 94, 3) := by decide +kernel
theorem dL_law_1132 : decode cL_law 1132 = .ok (.istore 24, 2) := by decide +kernel
theorem dL_law_1134 : decode cL_law 1134 = .ok (.aload_n 1, 1) := by decide +kernel
theorem dL_law_1135 : decode cL_law 1135 = .ok (.iconst 0, 1) := by decide +kernel
theorem dL_law_1136 : decode cL_law 1136 = .ok (.invokevirtual 46, 3) := by decide +kernel
theorem dL_law_1139 : decode cL_law 1139 = .ok (.bipush 24, 2) := by decide +kernel
theorem dL_law_1141 : decode cL_law 1141 = .ok (.irem, 1) := by decide +kernel
theorem dL_law_1142 : decode cL_law 1142 = .ok (.istore 25, 2) := by decide +kernel
theorem dL_law_1144 : decode cL_law 1144 = .ok (.iload 10, 2) := by decide +kernel
theorem dL_law_1146 : decode cL_law 1146 = .ok (.iload 25, 2) := by decide +kernel
theorem dL_law_1148 : decode cL_law 1148 = .ok (.bipush 8, 2) := by decide +kernel
theorem dL_law_1150 : decode cL_law 1150 = .ok (.if_icmp .le 15, 3) := by decide +kernel
theorem dL_law_1153 : decode cL_law 1153 = .ok (.iload 25, 2) := by decide +kernel
theorem dL_law_1155 : decode cL_law 1155 = .ok (.bipush 17, 2) := by decide +kernel
theorem dL_law_1157 : decode cL_law 1157 = .ok (.if_icmp .ge 8, 3) := by decide +kernel
theorem dL_law_1160 : decode cL_law 1160 = .ok (.iload 9, 2) := by decide +kernel
theorem dL_law_1162 : decode cL_law 1162 = .ok (.goto 4, 3) := by decide +kernel
theorem dL_law_1165 : decode cL_law 1165 = .ok (.iconst 0, 1) := by decide +kernel
theorem dL_law_1166 : decode cL_law 1166 = .ok (.iadd, 1) := by decide +kernel
theorem dL_law_1167 : decode cL_law 1167 = .ok (.istore 10, 2) := by decide +kernel
theorem dL_law_1169 : decode cL_law 1169 = .ok (.aload_n 1, 1) := by decide +kernel
theorem dL_law_1170 : decode cL_law 1170 = .ok (.bipush 8, 2) := by decide +kernel
theorem dL_law_1172 : decode cL_law 1172 = .ok (.invokevirtual 46, 3) := by decide +kernel
theorem dL_law_1175 : decode cL_law 1175 = .ok (.iload 20, 2) := by decide +kernel
theorem dL_law_1177 : decode cL_law 1177 = .ok (.iload 24, 2) := by decide +kernel
theorem dL_law_1179 : decode cL_law 1179 = .ok (.iadd, 1) := by decide +kernel
theorem dL_law_1180 : decode cL_law 1180 = .ok (.if_icmp .ne 83, 3) := by decide +kernel
theorem dL_law_1183 : decode cL_law 1183 = .ok (.iload 24, 2) := by decide +kernel
theorem dL_law_1185 : decode cL_law 1185 = .ok (.iload_n 3, 1) := by decide +kernel
theorem dL_law_1186 : decode cL_law 1186 = .ok (.if_icmp .gt 77, 3) := by decide +kernel
theorem dL_law_1189 : decode cL_law 1189 = .ok (.aload_n 1, 1) := by decide +kernel
theorem dL_law_1190 : decode cL_law 1190 = .ok (.bipush 10, 2) := by decide +kernel
theorem dL_law_1192 : decode cL_law 1192 = .ok (.invokevirtual 46, 3) := by decide +kernel
theorem dL_law_1195 : decode cL_law 1195 = .ok (.iload 21, 2) := by decide +kernel
theorem dL_law_1197 : decode cL_law 1197 = .ok (.if_icmp .lt 66, 3) := by decide +kernel
theorem dL_law_1200 : decode cL_law 1200 = .ok (.aload_n 1, 1) := by decide +kernel
theorem dL_law_1201 : decode cL_law 1201 = .ok (.bipush 10, 2) := by decide +kernel
theorem dL_law_1203 : decode cL_law 1203 = .ok (.invokevirtual 46, 3) := by decide +kernel
theorem dL_law_1206 : decode cL_law 1206 = .ok (.iload 21, 2) := by decide +kernel
theorem dL_law_1208 : decode cL_law 1208 = .ok (.iload 24, 2) := by decide +kernel
theorem dL_law_1210 : decode cL_law 1210 = .ok (.iadd, 1) := by decide +kernel
theorem dL_law_1211 : decode cL_law 1211 = .ok (.if_icmp .gt 52, 3) := by decide +kernel
theorem dL_law_1214 : decode cL_law 1214 = .ok (.aload_n 1, 1) := by decide +kernel
theorem dL_law_1215 : decode cL_law 1215 = .ok (.bipush 11, 2) := by decide +kernel
theorem dL_law_1217 : decode cL_law 1217 = .ok (.invokevirtual 46, 3) := by decide +kernel
theorem dL_law_1220 : decode cL_law 1220 = .ok (.iload 22, 2) := by decide +kernel
theorem dL_law_1222 : decode cL_law 1222 = .ok (.if_icmp .lt 41, 3) := by decide +kernel
theorem dL_law_1225 : decode cL_law 1225 = .ok (.aload_n 1, 1) := by decide +kernel
theorem dL_law_1226 : decode cL_law 1226 = .ok (.iconst 4, 1) := by decide +kernel
theorem dL_law_1227 : decode cL_law 1227 = .ok (.invokevirtual 46, 3) := by decide +kernel
theorem dL_law_1230 : decode cL_law 1230 = .ok (.iload 19, 2) := by decide +kernel
theorem dL_law_1232 : decode cL_law 1232 = .ok (.if_icmp .gt 31, 3) := by decide +kernel
theorem dL_law_1235 : decode cL_law 1235 = .ok (.aload_n 1, 1) := by decide +kernel
theorem dL_law_1236 : decode cL_law 1236 = .ok (.iconst 4, 1) := by decide +kernel
theorem dL_law_1237 : decode cL_law 1237 = .ok (.invokevirtual 46, 3) := by decide +kernel
theorem dL_law_1240 : decode cL_law 1240 = .ok (.iload 19, 2) := by decide +kernel
theorem dL_law_1242 : decode cL_law 1242 = .ok (.iconst 5, 1) := by decide +kernel
theorem dL_law_1243 : decode cL_law 1243 = .ok (.iload 7, 2) := by decide +kernel
theorem dL_law_1245 : decode cL_law 1245 = .ok (.imul, 1) := by decide +kernel
theorem dL_law_1246 : decode cL_law 1246 = .ok (.isub, 1) := by decide +kernel
theorem dL_law_1247 : decode cL_law 1247 = .ok (.if_icmp .lt 16, 3) := by decide +kernel
theorem dL_law_1250 : decode cL_law 1250 = .ok (.iload 19, 2) := by decide +kernel
theorem dL_law_1252 : decode cL_law 1252 = .ok (.aload_n 1, 1) := by decide +kernel
theorem dL_law_1253 : decode cL_law 1253 = .ok (.iconst 4, 1) := by decide +kernel
theorem dL_law_1254 : decode cL_law 1254 = .ok (.invokevirtual 46, 3) := by decide +kernel
theorem dL_law_1257 : decode cL_law 1257 = .ok (.isub, 1) := by decide +kernel
theorem dL_law_1258 : decode cL_law 1258 = .ok (.iconst 5, 1) := by decide +kernel
theorem dL_law_1259 : decode cL_law 1259 = .ok (.irem, 1) := by decide +kernel
theorem dL_law_1260 : decode cL_law 1260 = .ok (.ifCond .eq 5, 3) := by decide +kernel
theorem dL_law_1263 : decode cL_law 1263 = .ok (.iconst 0, 1) := by decide +kernel
theorem dL_law_1264 : decode cL_law 1264 = .ok (.ireturn, 1) := by decide +kernel
theorem dL_law_1265 : decode cL_law 1265 = .ok (.iconst 0, 1) := by decide +kernel
theorem dL_law_1266 : decode cL_law 1266 = .ok (.istore 26, 2) := by decide +kernel
theorem dL_law_1268 : decode cL_law 1268 = .ok (.iload 26, 2) := by decide +kernel
theorem dL_law_1270 : decode cL_law 1270 = .ok (.iload_n 3, 1) := by decide +kernel
theorem dL_law_1271 : decode cL_law 1271 = .ok (.if_icmp .ge 39, 3) := by decide +kernel
theorem dL_law_1274 : decode cL_law 1274 = .ok (.aload_n 1, 1) := by decide +kernel
theorem dL_law_1275 : decode cL_law 1275 = .ok (.iload 26, 2) := by decide +kernel
theorem dL_law_1277 : decode cL_law 1277 = .ok (.bipush 12, 2) := by decide +kernel
theorem dL_law_1279 : decode cL_law 1279 = .ok (.invokevirtual 33, 3) := by decide +kernel
theorem dL_law_1282 : decode cL_law 1282 = .ok (.aload 23, 2) := by decide +kernel
theorem dL_law_1284 : decode cL_law 1284 = .ok (.iload 26, 2) := by decide +kernel
theorem dL_law_1286 : decode cL_law 1286 = .ok (.iaload, 1) := by decide +kernel
theorem dL_law_1287 : decode cL_law 1287 = .ok (.if_icmp .ne 17, 3) := by decide +kernel
theorem dL_law_1290 : decode cL_law 1290 = .ok (.aload_n 1, 1) := by decide +kernel
theorem dL_law_1291 : decode cL_law 1291 = .ok (.iload 26, 2) := by decide +kernel
theorem dL_law_1293 : decode cL_law 1293 = .ok (.iconst 4, 1) := by decide +kernel
theorem dL_law_1294 : decode cL_law 1294 = .ok (.invokevirtual 33, 3) := by decide +kernel
theorem dL_law_1297 : decode cL_law 1297 = .ok (.bipush 100, 2) := by decide +kernel
theorem dL_law_1299 : decode cL_law 1299 = .ok (.if_icmp .lt 5, 3) := by decide +kernel
theorem dL_law_1302 : decode cL_law 1302 = .ok (.iconst 0, 1) := by decide +kernel
theorem dL_law_1303 : decode cL_law 1303 = .ok (.ireturn, 1) := by decide +kernel
theorem dL_law_1304 : decode cL_law 1304 = .ok (.iinc 26 1, 3) := by decide +kernel
theorem dL_law_1307 : decode cL_law 1307 = .ok (.goto (-39), 3) := by decide +kernel
theorem dL_law_1310 : decode cL_law 1310 = .ok (.iconst 0, 1) := by decide +kernel
theorem dL_law_1311 : decode cL_law 1311 = .ok (.istore 26, 2) := by decide +kernel
theorem dL_law_1313 : decode cL_law 1313 = .ok (.iload 26, 2) := by decide +kernel
theorem dL_law_1315 : decode cL_law 1315 = .ok (.iload_n 2, 1) := by decide +kernel
theorem dL_law_1316 : decode cL_law 1316 = .ok (.if_icmp .ge 36, 3) := by decide +kernel
theorem dL_law_1319 : decode cL_law 1319 = .ok (.aload 16, 2) := by decide +kernel
theorem dL_law_1321 : decode cL_law 1321 = .ok (.iconst 2, 1) := by decide +kernel
theorem dL_law_1322 : decode cL_law 1322 = .ok (.iaload, 1) := by decide +kernel
theorem dL_law_1323 : decode cL_law 1323 = .ok (.aload_n 1, 1) := by decide +kernel
theorem dL_law_1324 : decode cL_law 1324 = .ok (.iload 26, 2) := by decide +kernel
theorem dL_law_1326 : decode cL_law 1326 = .ok (.iconst 1, 1) := by decide +kernel
theorem dL_law_1327 : decode cL_law 1327 = .ok (.invokevirtual 36, 3) := by decide +kernel
theorem dL_law_1330 : decode cL_law 1330 = .ok (.if_icmp .le 16, 3) := by decide +kernel
theorem dL_law_1333 : decode cL_law 1333 = .ok (.aload_n 1, 1) := by decide +kernel
theorem dL_law_1334 : decode cL_law 1334 = .ok (.iload 26, 2) := by decide +kernel
theorem dL_law_1336 : decode cL_law 1336 = .ok (.iconst 3, 1) := by decide +kernel
theorem dL_law_1337 : decode cL_law 1337 = .ok (.invokevirtual 36, 3) := by decide +kernel
theorem dL_law_1340 : decode cL_law 1340 = .ok (.iconst 1, 1) := by decide +kernel
theorem dL_law_1341 : decode cL_law 1341 = .ok (.if_icmp .eq 5, 3) := by decide +kernel
theorem dL_law_1344 : decode cL_law 1344 = .ok (.iconst 0, 1) := by decide +kernel
theorem dL_law_1345 : decode cL_law 1345 = .ok (.ireturn, 1) := by decide +kernel
theorem dL_law_1346 : decode cL_law 1346 = .ok (.iinc 26 1, 3) := by decide +kernel
theorem dL_law_1349 : decode cL_law 1349 = .ok (.goto (-36), 3) := by decide +kernel
theorem dL_law_1352 : decode cL_law 1352 = .ok (.iinc 18 1, 3) := by decide +kernel
theorem dL_law_1355 : decode cL_law 1355 = .ok (.goto (-301), 3) := by decide +kernel
theorem dL_law_1358 : decode cL_law 1358 = .ok (.aload_n 1, 1) := by decide +kernel
theorem dL_law_1359 : decode cL_law 1359 = .ok (.iconst 5, 1) := by decide +kernel
theorem dL_law_1360 : decode cL_law 1360 = .ok (.invokevirtual 46, 3) := by decide +kernel
theorem dL_law_1363 : decode cL_law 1363 = .ok (.bipush 50, 2) := by decide +kernel
theorem dL_law_1365 : decode cL_law 1365 = .ok (.iload 5, 2) := by decide +kernel
theorem dL_law_1367 : decode cL_law 1367 = .ok (.isub, 1) := by decide +kernel
theorem dL_law_1368 : decode cL_law 1368 = .ok (.if_icmp .ne 48, 3) := by decide +kernel
theorem dL_law_1371 : decode cL_law 1371 = .ok (.aload_n 1, 1) := by decide +kernel
theorem dL_law_1372 : decode cL_law 1372 = .ok (.bipush 6, 2) := by decide +kernel
theorem dL_law_1374 : decode cL_law 1374 = .ok (.invokevirtual 46, 3) := by decide +kernel
theorem dL_law_1377 : decode cL_law 1377 = .ok (.bipush 100, 2) := by decide +kernel
theorem dL_law_1379 : decode cL_law 1379 = .ok (.iconst 5, 1) := by decide +kernel
theorem dL_law_1380 : decode cL_law 1380 = .ok (.iload 6, 2) := by decide +kernel
theorem dL_law_1382 : decode cL_law 1382 = .ok (.imul, 1) := by decide +kernel
theorem dL_law_1383 : decode cL_law 1383 = .ok (.isub, 1) := by decide +kernel
theorem dL_law_1384 : decode cL_law 1384 = .ok (.if_icmp .ne 32, 3) := by decide +kernel
theorem dL_law_1387 : decode cL_law 1387 = .ok (.aload_n 1, 1) := by decide +kernel
theorem dL_law_1388 : decode cL_law 1388 = .ok (.bipush 12, 2) := by decide +kernel
theorem dL_law_1390 : decode cL_law 1390 = .ok (.invokevirtual 46, 3) := by decide +kernel
theorem dL_law_1393 : decode cL_law 1393 = .ok (.aload_n 1, 1) := by decide +kernel
theorem dL_law_1394 : decode cL_law 1394 = .ok (.bipush 13, 2) := by decide +kernel
theorem dL_law_1396 : decode cL_law 1396 = .ok (.invokevirtual 46, 3) := by decide +kernel
theorem dL_law_1399 : decode cL_law 1399 = .ok (.iadd, 1) := by decide +kernel
theorem dL_law_1400 : decode cL_law 1400 = .ok (.iload 10, 2) := by decide +kernel
theorem dL_law_1402 : decode cL_law 1402 = .ok (.if_icmp .ne 14, 3) := by decide +kernel
theorem dL_law_1405 : decode cL_law 1405 = .ok (.aload_n 1, 1) := by decide +kernel
theorem dL_law_1406 : decode cL_law 1406 = .ok (.iload_n 2, 1) := by decide +kernel
theorem dL_law_1407 : decode cL_law 1407 = .ok (.iload_n 3, 1) := by decide +kernel
theorem dL_law_1408 : decode cL_law 1408 = .ok (.aload 4, 2) := by decide +kernel
theorem dL_law_1410 : decode cL_law 1410 = .ok (.invokestatic 97, 3) := by decide +kernel
theorem dL_law_1413 : decode cL_law 1413 = .ok (.ifCond .ne 5, 3) := by decide +kernel
theorem dL_law_1416 : decode cL_law 1416 = .ok (.iconst 0, 1) := by decide +kernel
theorem dL_law_1417 : decode cL_law 1417 = .ok (.ireturn, 1) := by decide +kernel
theorem dL_law_1418 : decode cL_law 1418 = .ok (.iinc 11 1, 3) := by decide +kernel
theorem dL_law_1421 : decode cL_law 1421 = .ok (.goto (-1213), 3) := by decide +kernel
theorem dL_law_1424 : decode cL_law 1424 = .ok (.aload_n 1, 1) := by decide +kernel
theorem dL_law_1425 : decode cL_law 1425 = .ok (.invokevirtual 101, 3) := by decide +kernel
theorem dL_law_1428 : decode cL_law 1428 = .ok (.lstore 11, 2) := by decide +kernel
theorem dL_law_1430 : decode cL_law 1430 = .ok (.aload_n 1, 1) := by decide +kernel
theorem dL_law_1431 : decode cL_law 1431 = .ok (.iload_n 2, 1) := by decide +kernel
theorem dL_law_1432 : decode cL_law 1432 = .ok (.iload_n 3, 1) := by decide +kernel
theorem dL_law_1433 : decode cL_law 1433 = .ok (.aload 4, 2) := by decide +kernel
theorem dL_law_1435 : decode cL_law 1435 = .ok (.invokestatic 97, 3) := by decide +kernel
theorem dL_law_1438 : decode cL_law 1438 = .ok (.ifCond .eq 17, 3) := by decide +kernel
theorem dL_law_1441 : decode cL_law 1441 = .ok (.aload_n 1, 1) := by decide +kernel
theorem dL_law_1442 : decode cL_law 1442 = .ok (.invokevirtual 101, 3) := by decide +kernel
theorem dL_law_1445 : decode cL_law 1445 = .ok (.lload 11, 2) := by decide +kernel
theorem dL_law_1447 : decode cL_law 1447 = .ok (.lcmp, 1) := by decide +kernel
theorem dL_law_1448 : decode cL_law 1448 = .ok (.ifCond .ne 7, 3) := by decide +kernel
theorem dL_law_1451 : decode cL_law 1451 = .ok (.iconst 1, 1) := by decide +kernel
theorem dL_law_1452 : decode cL_law 1452 = .ok (.goto 4, 3) := by decide +kernel
theorem dL_law_1455 : decode cL_law 1455 = .ok (.iconst 0, 1) := by decide +kernel
theorem dL_law_1456 : decode cL_law 1456 = .ok (.ireturn, 1) := by decide +kernel
theorem dL_isSo_0 : decode cL_isSo 0 = .ok (.iconst 0, 1) := by decide +kernel
theorem dL_isSo_1 : decode cL_isSo 1 = .ok (.istore 4, 2) := by decide +kernel
theorem dL_isSo_3 : decode cL_isSo 3 = .ok (.iconst 0, 1) := by decide +kernel
theorem dL_isSo_4 : decode cL_isSo 4 = .ok (.istore 5, 2) := by decide +kernel
theorem dL_isSo_6 : decode cL_isSo 6 = .ok (.iconst 0, 1) := by decide +kernel
theorem dL_isSo_7 : decode cL_isSo 7 = .ok (.istore 6, 2) := by decide +kernel
theorem dL_isSo_9 : decode cL_isSo 9 = .ok (.iconst 0, 1) := by decide +kernel
theorem dL_isSo_10 : decode cL_isSo 10 = .ok (.istore 7, 2) := by decide +kernel
theorem dL_isSo_12 : decode cL_isSo 12 = .ok (.iconst 0, 1) := by decide +kernel
theorem dL_isSo_13 : decode cL_isSo 13 = .ok (.istore 8, 2) := by decide +kernel
theorem dL_isSo_15 : decode cL_isSo 15 = .ok (.iconst 0, 1) := by decide +kernel
theorem dL_isSo_16 : decode cL_isSo 16 = .ok (.istore 9, 2) := by decide +kernel
theorem dL_isSo_18 : decode cL_isSo 18 = .ok (.iconst 0, 1) := by decide +kernel
theorem dL_isSo_19 : decode cL_isSo 19 = .ok (.istore 10, 2) := by decide +kernel
theorem dL_isSo_21 : decode cL_isSo 21 = .ok (.iload 10, 2) := by decide +kernel
theorem dL_isSo_23 : decode cL_isSo 23 = .ok (.iload_n 2, 1) := by decide +kernel
theorem dL_isSo_24 : decode cL_isSo 24 = .ok (.if_icmp .ge 396, 3) := by decide +kernel
theorem dL_isSo_27 : decode cL_isSo 27 = .ok (.aload_n 0, 1) := by decide +kernel
theorem dL_isSo_28 : decode cL_isSo 28 = .ok (.iload 10, 2) := by decide +kernel
theorem dL_isSo_30 : decode cL_isSo 30 = .ok (.iconst 1, 1) := by decide +kernel
theorem dL_isSo_31 : decode cL_isSo 31 = .ok (.invokevirtual 33, 3) := by decide +kernel
theorem dL_isSo_34 : decode cL_isSo 34 = .ok (.istore 11, 2) := by decide +kernel
theorem dL_isSo_36 : decode cL_isSo 36 = .ok (.iconst 0, 1) := by decide +kernel
theorem dL_isSo_37 : decode cL_isSo 37 = .ok (.istore 12, 2) := by decide +kernel
theorem dL_isSo_39 : decode cL_isSo 39 = .ok (.iload 11, 2) := by decide +kernel
theorem dL_isSo_41 : decode cL_isSo 41 = .ok (.ifCond .lt 10, 3) := by decide +kernel
theorem dL_isSo_44 : decode cL_isSo 44 = .ok (.iload 11, 2) := by decide +kernel
theorem dL_isSo_46 : decode cL_isSo 46 = .ok (.bipush 8, 2) := by decide +kernel
theorem dL_isSo_48 : decode cL_isSo 48 = .ok (.if_icmp .le 5, 3) := by decide +kernel
theorem dL_isSo_51 : decode cL_isSo 51 = .ok (.iconst 0, 1) := by decide +kernel
theorem dL_isSo_52 : decode cL_isSo 52 = .ok (.ireturn, 1) := by decide +kernel
theorem dL_isSo_53 : decode cL_isSo 53 = .ok (.iconst 0, 1) := by decide +kernel
theorem dL_isSo_54 : decode cL_isSo 54 = .ok (.istore 13, 2) := by decide +kernel
theorem dL_isSo_56 : decode cL_isSo 56 = .ok (.iload 13, 2) := by decide +kernel
theorem dL_isSo_58 : decode cL_isSo 58 = .ok (.iload 11, 2) := by decide +kernel
theorem dL_isSo_60 : decode cL_isSo 60 = .ok (.if_icmp .ge 101, 3) := by decide +kernel
theorem dL_isSo_63 : decode cL_isSo 63 = .ok (.aload_n 0, 1) := by decide +kernel
theorem dL_isSo_64 : decode cL_isSo 64 = .ok (.iload 10, 2) := by decide +kernel
theorem dL_isSo_66 : decode cL_isSo 66 = .ok (.iload 13, 2) := by decide +kernel
theorem dL_isSo_68 : decode cL_isSo 68 = .ok (.iconst 2, 1) := by decide +kernel
theorem dL_isSo_69 : decode cL_isSo 69 = .ok (.invokevirtual 80, 3) := by decide +kernel
theorem dL_isSo_72 : decode cL_isSo 72 = .ok (.istore 14, 2) := by decide +kernel
theorem dL_isSo_74 : decode cL_isSo 74 = .ok (.iload 12, 2) := by decide +kernel
theorem dL_isSo_76 : decode cL_isSo 76 = .ok (.aload_n 0, 1) := by decide +kernel
theorem dL_isSo_77 : decode cL_isSo 77 = .ok (.iload 10, 2) := by decide +kernel
theorem dL_isSo_79 : decode cL_isSo 79 = .ok (.iload 13, 2) := by decide +kernel
theorem dL_isSo_81 : decode cL_isSo 81 = .ok (.iconst 0, 1) := by decide +kernel
theorem dL_isSo_82 : decode cL_isSo 82 = .ok (.invokevirtual 80, 3) := by decide +kernel
theorem dL_isSo_85 : decode cL_isSo 85 = .ok (.iadd, 1) := by decide +kernel
theorem dL_isSo_86 : decode cL_isSo 86 = .ok (.istore 12, 2) := by decide +kernel
theorem dL_isSo_88 : decode cL_isSo 88 = .ok (.aload_n 0, 1) := by decide +kernel
theorem dL_isSo_89 : decode cL_isSo 89 = .ok (.iload 10, 2) := by decide +kernel
theorem dL_isSo_91 : decode cL_isSo 91 = .ok (.iload 13, 2) := by decide +kernel
theorem dL_isSo_93 : decode cL_isSo 93 = .ok (.iconst 0, 1) := by decide +kernel
theorem dL_isSo_94 : decode cL_isSo 94 = .ok (.invokevirtual 80, 3) := by decide +kernel
theorem dL_isSo_97 : decode cL_isSo 97 = .ok (.iconst 1, 1) := by decide +kernel
theorem dL_isSo_98 : decode cL_isSo 98 = .ok (.if_icmp .lt 55, 3) := by decide +kernel
theorem dL_isSo_101 : decode cL_isSo 101 = .ok (.aload_n 0, 1) := by decide +kernel
theorem dL_isSo_102 : decode cL_isSo 102 = .ok (.iload 10, 2) := by decide +kernel
theorem dL_isSo_104 : decode cL_isSo 104 = .ok (.iload 13, 2) := by decide +kernel
theorem dL_isSo_106 : decode cL_isSo 106 = .ok (.iconst 0, 1) := by decide +kernel
theorem dL_isSo_107 : decode cL_isSo 107 = .ok (.invokevirtual 80, 3) := by decide +kernel
theorem dL_isSo_110 : decode cL_isSo 110 = .ok (.sipush 300, 3) := by decide +kernel
theorem dL_isSo_113 : decode cL_isSo 113 = .ok (.if_icmp .gt 40, 3) := by decide +kernel
theorem dL_isSo_116 : decode cL_isSo 116 = .ok (.aload_n 0, 1) := by decide +kernel
theorem dL_isSo_117 : decode cL_isSo 117 = .ok (.iload 10, 2) := by decide +kernel
theorem dL_isSo_119 : decode cL_isSo 119 = .ok (.iload 13, 2) := by decide +kernel
theorem dL_isSo_121 : decode cL_isSo 121 = .ok (.iconst 1, 1) := by decide +kernel
theorem dL_isSo_122 : decode cL_isSo 122 = .ok (.invokevirtual 80, 3) := by decide +kernel
theorem dL_isSo_125 : decode cL_isSo 125 = .ok (.ifCond .lt 28, 3) := by decide +kernel
theorem dL_isSo_128 : decode cL_isSo 128 = .ok (.aload_n 0, 1) := by decide +kernel
theorem dL_isSo_129 : decode cL_isSo 129 = .ok (.iload 10, 2) := by decide +kernel
theorem dL_isSo_131 : decode cL_isSo 131 = .ok (.iload 13, 2) := by decide +kernel
theorem dL_isSo_133 : decode cL_isSo 133 = .ok (.iconst 1, 1) := by decide +kernel
theorem dL_isSo_134 : decode cL_isSo 134 = .ok (.invokevirtual 80, 3) := by decide +kernel
theorem dL_isSo_137 : decode cL_isSo 137 = .ok (.bipush 100, 2) := by decide +kernel
theorem dL_isSo_139 : decode cL_isSo 139 = .ok (.if_icmp .gt 14, 3) := by decide +kernel
theorem dL_isSo_142 : decode cL_isSo 142 = .ok (.iload 14, 2) := by decide +kernel
theorem dL_isSo_144 : decode cL_isSo 144 = .ok (.ifCond .lt 9, 3) := by decide +kernel
theorem dL_isSo_147 : decode cL_isSo 147 = .ok (.iload 14, 2) := by decide +kernel
theorem dL_isSo_149 : decode cL_isSo 149 = .ok (.iconst 3, 1) := by decide +kernel
theorem dL_isSo_150 : decode cL_isSo 150 = .ok (.if_icmp .le 5, 3) := by decide +kernel
theorem dL_isSo_153 : decode cL_isSo 153 = .ok (.iconst 0, 1) := by decide +kernel
theorem dL_isSo_154 : decode cL_isSo 154 = .ok (.ireturn, 1) := by decide +kernel
theorem dL_isSo_155 : decode cL_isSo 155 = .ok (.iinc 13 1, 3) := by decide +kernel
theorem dL_isSo_158 : decode cL_isSo 158 = .ok (.goto (-102), 3) := by decide +kernel
theorem dL_isSo_161 : decode cL_isSo 161 = .ok (.aload_n 0, 1) := by decide +kernel
theorem dL_isSo_162 : decode cL_isSo 162 = .ok (.iload 10, 2) := by decide +kernel
theorem dL_isSo_164 : decode cL_isSo 164 = .ok (.iconst 5, 1) := by decide +kernel
theorem dL_isSo_165 : decode cL_isSo 165 = .ok (.invokevirtual 33, 3) := by decide +kernel
theorem dL_isSo_168 : decode cL_isSo 168 = .ok (.istore 13, 2) := by decide +kernel
theorem dL_isSo_170 : decode cL_isSo 170 = .ok (.iload 4, 2) := by decide +kernel
theorem dL_isSo_172 : decode cL_isSo 172 = .ok (.iload 12, 2) := by decide +kernel
theorem dL_isSo_174 : decode cL_isSo 174 = .ok (.aload_n 3, 1) := by decide +kernel
theorem dL_isSo_175 : decode cL_isSo 175 = .ok (.iload 10, 2) := by decide +kernel
theorem dL_isSo_177 : decode cL_isSo 177 = .ok (.iaload, 1) := by decide +kernel
theorem dL_isSo_178 : decode cL_isSo 178 = .ok (.imul, 1) := by decide +kernel
theorem dL_isSo_179 : decode cL_isSo 179 = .ok (.iadd, 1) := by decide +kernel
theorem dL_isSo_180 : decode cL_isSo 180 = .ok (.istore 4, 2) := by decide +kernel
theorem dL_isSo_182 : decode cL_isSo 182 = .ok (.iload 9, 2) := by decide +kernel
theorem dL_isSo_184 : decode cL_isSo 184 = .ok (.aload_n 3, 1) := by decide +kernel
theorem dL_isSo_185 : decode cL_isSo 185 = .ok (.iload 10, 2) := by decide +kernel
theorem dL_isSo_187 : decode cL_isSo 187 = .ok (.iaload, 1) := by decide +kernel
theorem dL_isSo_188 : decode cL_isSo 188 = .ok (.iadd, 1) := by decide +kernel
theorem dL_isSo_189 : decode cL_isSo 189 = .ok (.istore 9, 2) := by decide +kernel
theorem dL_isSo_191 : decode cL_isSo 191 = .ok (.iload 5, 2) := by decide +kernel
theorem dL_isSo_193 : decode cL_isSo 193 = .ok (.aload_n 0, 1) := by decide +kernel
theorem dL_isSo_194 : decode cL_isSo 194 = .ok (.iload 10, 2) := by decide +kernel
theorem dL_isSo_196 : decode cL_isSo 196 = .ok (.bipush 12, 2) := by decide +kernel
theorem dL_isSo_198 : decode cL_isSo 198 = .ok (.invokevirtual 33, 3) := by decide +kernel
theorem dL_isSo_201 : decode cL_isSo 201 = .ok (.iadd, 1) := by decide +kernel
theorem dL_isSo_202 : decode cL_isSo 202 = .ok (.istore 5, 2) := by decide +kernel
theorem dL_isSo_204 : decode cL_isSo 204 = .ok (.iload 6, 2) := by decide +kernel
theorem dL_isSo_206 : decode cL_isSo 206 = .ok (.aload_n 0, 1) := by decide +kernel
theorem dL_isSo_207 : decode cL_isSo 207 = .ok (.iload 10, 2) := by decide +kernel
theorem dL_isSo_209 : decode cL_isSo 209 = .ok (.bipush 6, 2) := by decide +kernel
theorem dL_isSo_211 : decode cL_isSo 211 = .ok (.invokevirtual 33, 3) := by decide +kernel
theorem dL_isSo_214 : decode cL_isSo 214 = .ok (.iadd, 1) := by decide +kernel
theorem dL_isSo_215 : decode cL_isSo 215 = .ok (.istore 6, 2) := by decide +kernel
theorem dL_isSo_217 : decode cL_isSo 217 = .ok (.iload 8, 2) := by decide +kernel
theorem dL_isSo_219 : decode cL_isSo 219 = .ok (.aload_n 0, 1) := by decide +kernel
theorem dL_isSo_220 : decode cL_isSo 220 = .ok (.iload 10, 2) := by decide +kernel
theorem dL_isSo_222 : decode cL_isSo 222 = .ok (.bipush 11, 2) := by decide +kernel
theorem dL_isSo_224 : decode cL_isSo 224 = .ok (.invokevirtual 33, 3) := by decide +kernel
theorem dL_isSo_227 : decode cL_isSo 227 = .ok (.iadd, 1) := by decide +kernel
theorem dL_isSo_228 : decode cL_isSo 228 = .ok (.istore 8, 2) := by decide +kernel
theorem dL_isSo_230 : decode cL_isSo 230 = .ok (.aload_n 0, 1) := by decide +kernel
theorem dL_isSo_231 : decode cL_isSo 231 = .ok (.iload 10, 2) := by decide +kernel
theorem dL_isSo_233 : decode cL_isSo 233 = .ok (.iconst 2, 1) := by decide +kernel
theorem dL_isSo_234 : decode cL_isSo 234 = .ok (.invokevirtual 33, 3) := by decide +kernel
theorem dL_isSo_237 : decode cL_isSo 237 = .ok (.iload 12, 2) := by decide +kernel
theorem dL_isSo_239 : decode cL_isSo 239 = .ok (.if_icmp .ne 136, 3) := by decide +kernel
theorem dL_isSo_242 : decode cL_isSo 242 = .ok (.aload_n 0, 1) := by decide +kernel
theorem dL_isSo_243 : decode cL_isSo 243 = .ok (.iload 10, 2) := by decide +kernel
theorem dL_isSo_245 : decode cL_isSo 245 = .ok (.iconst 3, 1) := by decide +kernel
theorem dL_isSo_246 : decode cL_isSo 246 = .ok (.invokevirtual 33, 3) := by decide +kernel
theorem dL_isSo_249 : decode cL_isSo 249 = .ok (.iconst 1, 1) := by decide +kernel
theorem dL_isSo_250 : decode cL_isSo 250 = .ok (.if_icmp .ne 8, 3) := by decide +kernel
theorem dL_isSo_253 : decode cL_isSo 253 = .ok (.iload 11, 2) := by decide +kernel
theorem dL_isSo_255 : decode cL_isSo 255 = .ok (.ifCond .eq 120, 3) := by decide +kernel
theorem dL_isSo_258 : decode cL_isSo 258 = .ok (.aload_n 0, 1) := by decide +kernel
theorem dL_isSo_259 : decode cL_isSo 259 = .ok (.iload 10, 2) := by decide +kernel
theorem dL_isSo_261 : decode cL_isSo 261 = .ok (.iconst 4, 1) := by decide +kernel
theorem dL_isSo_262 : decode cL_isSo 262 = .ok (.invokevirtual 33, 3) := by decide +kernel
theorem dL_isSo_265 : decode cL_isSo 265 = .ok (.ifCond .lt 110, 3) := by decide +kernel
theorem dL_isSo_268 : decode cL_isSo 268 = .ok (.aload_n 0, 1) := by decide +kernel
theorem dL_isSo_269 : decode cL_isSo 269 = .ok (.iload 10, 2) := by decide +kernel
theorem dL_isSo_271 : decode cL_isSo 271 = .ok (.iconst 4, 1) := by decide +kernel
theorem dL_isSo_272 : decode cL_isSo 272 = .ok (.invokevirtual 33, 3) := by decide +kernel
theorem dL_isSo_275 : decode cL_isSo 275 = .ok (.sipush 999, 3) := by decide +kernel
theorem dL_isSo_278 : decode cL_isSo 278 = .ok (.if_icmp .gt 97, 3) := by decide +kernel
theorem dL_isSo_281 : decode cL_isSo 281 = .ok (.aload_n 0, 1) := by decide +kernel
theorem dL_isSo_282 : decode cL_isSo 282 = .ok (.iload 10, 2) := by decide +kernel
theorem dL_isSo_284 : decode cL_isSo 284 = .ok (.iconst 4, 1) := by decide +kernel
theorem dL_isSo_285 : decode cL_isSo 285 = .ok (.invokevirtual 33, 3) := by decide +kernel
theorem dL_isSo_288 : decode cL_isSo 288 = .ok (.ifCond .ne 7, 3) := by decide +kernel
theorem dL_isSo_291 : decode cL_isSo 291 = .ok (.iconst 1, 1) := by decide +kernel
theorem dL_isSo_292 : decode cL_isSo 292 = .ok (.goto 4, 3) := by decide +kernel
theorem dL_isSo_295 : decode cL_isSo 295 = .ok (.iconst 0, 1) := by decide +kernel
theorem dL_isSo_296 : decode cL_isSo 296 = .ok (.iload 13, 2) := by decide +kernel
theorem dL_isSo_298 : decode cL_isSo 298 = .ok (.iconst (-1), 1) := by decide +kernel
theorem dL_isSo_299 : decode cL_isSo 299 = .ok (.if_icmp .ne 7, 3) := by decide +kernel
theorem dL_isSo_302 : decode cL_isSo 302 = .ok (.iconst 1, 1) := by decide +kernel
theorem dL_isSo_303 : decode cL_isSo 303 = .ok (.goto 4, 3) := by decide +kernel
theorem dL_isSo_306 : decode cL_isSo 306 = .ok (.iconst 0, 1) := by decide +kernel
theorem dL_isSo_307 : decode cL_isSo 307 = .ok (.if_icmp .ne 68, 3) := by decide +kernel
theorem dL_isSo_310 : decode cL_isSo 310 = .ok (.iload 13, 2) := by decide +kernel
theorem dL_isSo_312 : decode cL_isSo 312 = .ok (.iload 11, 2) := by decide +kernel
theorem dL_isSo_314 : decode cL_isSo 314 = .ok (.iconst 1, 1) := by decide +kernel
theorem dL_isSo_315 : decode cL_isSo 315 = .ok (.isub, 1) := by decide +kernel
theorem dL_isSo_316 : decode cL_isSo 316 = .ok (.if_icmp .lt 9, 3) := by decide +kernel
theorem dL_isSo_319 : decode cL_isSo 319 = .ok (.iload 13, 2) := by decide +kernel
theorem dL_isSo_321 : decode cL_isSo 321 = .ok (.iconst (-1), 1) := by decide +kernel
theorem dL_isSo_322 : decode cL_isSo 322 = .ok (.if_icmp .ne 53, 3) := by decide +kernel
theorem dL_isSo_325 : decode cL_isSo 325 = .ok (.aload_n 0, 1) := by decide +kernel
theorem dL_isSo_326 : decode cL_isSo 326 = .ok (.iload 10, 2) := by decide +kernel
theorem dL_isSo_328 : decode cL_isSo 328 = .ok (.bipush 10, 2) := by decide +kernel
theorem dL_isSo_330 : decode cL_isSo 330 = .ok (.invokevirtual 33, 3) := by decide +kernel
theorem dL_isSo_333 : decode cL_isSo 333 = .ok (.ifCond .lt 42, 3) := by decide +kernel
theorem dL_isSo_336 : decode cL_isSo 336 = .ok (.aload_n 0, 1) := by decide +kernel
theorem dL_isSo_337 : decode cL_isSo 337 = .ok (.iload 10, 2) := by decide +kernel
theorem dL_isSo_339 : decode cL_isSo 339 = .ok (.bipush 10, 2) := by decide +kernel
theorem dL_isSo_341 : decode cL_isSo 341 = .ok (.invokevirtual 33, 3) := by decide +kernel
theorem dL_isSo_344 : decode cL_isSo 344 = .ok (.aload_n 3, 1) := by decide +kernel
theorem dL_isSo_345 : decode cL_isSo 345 = .ok (.iload 10, 2) := by decide +kernel
theorem dL_isSo_347 : decode cL_isSo 347 = .ok (.iaload, 1) := by decide +kernel
theorem dL_isSo_348 : decode cL_isSo 348 = .ok (.if_icmp .ge 27, 3) := by decide +kernel
theorem dL_isSo_351 : decode cL_isSo 351 = .ok (.aload_n 0, 1) := by decide +kernel
theorem dL_isSo_352 : decode cL_isSo 352 = .ok (.iload 10, 2) := by decide +kernel
theorem dL_isSo_354 : decode cL_isSo 354 = .ok (.bipush 8, 2) := by decide +kernel
theorem dL_isSo_356 : decode cL_isSo 356 = .ok (.invokevirtual 33, 3) := by decide +kernel
theorem dL_isSo_359 : decode cL_isSo 359 = .ok (.ifCond .lt 16, 3) := by decide +kernel
theorem dL_isSo_362 : decode cL_isSo 362 = .ok (.aload_n 0, 1) := by decide +kernel
theorem dL_isSo_363 : decode cL_isSo 363 = .ok (.iload 10, 2) := by decide +kernel
theorem dL_isSo_365 : decode cL_isSo 365 = .ok (.bipush 8, 2) := by decide +kernel
theorem dL_isSo_367 : decode cL_isSo 367 = .ok (.invokevirtual 33, 3) := by decide +kernel
theorem dL_isSo_370 : decode cL_isSo 370 = .ok (.bipush 7, 2) := by decide +kernel
theorem dL_isSo_372 : decode cL_isSo 372 = .ok (.if_icmp .le 5, 3) := by decide +kernel
theorem dL_isSo_375 : decode cL_isSo 375 = .ok (.iconst 0, 1) := by decide +kernel
theorem dL_isSo_376 : decode cL_isSo 376 = .ok (.ireturn, 1) := by decide +kernel
theorem dL_isSo_377 : decode cL_isSo 377 = .ok (.aload_n 0, 1) := by decide +kernel
theorem dL_isSo_378 : decode cL_isSo 378 = .ok (.iload 10, 2) := by decide +kernel
theorem dL_isSo_380 : decode cL_isSo 380 = .ok (.bipush 7, 2) := by decide +kernel
theorem dL_isSo_382 : decode cL_isSo 382 = .ok (.invokevirtual 33, 3) := by decide +kernel
theorem dL_isSo_385 : decode cL_isSo 385 = .ok (.ifCond .le 29, 3) := by decide +kernel
theorem dL_isSo_388 : decode cL_isSo 388 = .ok (.aload_n 0, 1) := by decide +kernel
theorem dL_isSo_389 : decode cL_isSo 389 = .ok (.iload 10, 2) := by decide +kernel
theorem dL_isSo_391 : decode cL_isSo 391 = .ok (.bipush 8, 2) := by decide +kernel
theorem dL_isSo_393 : decode cL_isSo 393 = .ok (.invokevirtual 33, 3) := by decide +kernel
theorem dL_isSo_396 : decode cL_isSo 396 = .ok (.iconst 1, 1) := by decide +kernel
theorem dL_isSo_397 : decode cL_isSo 397 = .ok (.if_icmp .eq 17, 3) := by decide +kernel
theorem dL_isSo_400 : decode cL_isSo 400 = .ok (.aload_n 0, 1) := by decide +kernel
theorem dL_isSo_401 : decode cL_isSo 401 = .ok (.iload 10, 2) := by decide +kernel
theorem dL_isSo_403 : decode cL_isSo 403 = .ok (.bipush 8, 2) := by decide +kernel
theorem dL_isSo_405 : decode cL_isSo 405 = .ok (.invokevirtual 33, 3) := by decide +kernel
theorem dL_isSo_408 : decode cL_isSo 408 = .ok (.iconst 2, 1) := by decide +kernel
theorem dL_isSo_409 : decode cL_isSo 409 = .ok (.if_icmp .eq 5, 3) := by decide +kernel
theorem dL_isSo_412 : decode cL_isSo 412 = .ok (.iconst 0, 1) := by decide +kernel
theorem dL_isSo_413 : decode cL_isSo 413 = .ok (.ireturn, 1) := by decide +kernel
theorem dL_isSo_414 : decode cL_isSo 414 = .ok (.iinc 10 1, 3) := by decide +kernel
theorem dL_isSo_417 : decode cL_isSo 417 = .ok (.goto (-396), 3) := by decide +kernel
theorem dL_isSo_420 : decode cL_isSo 420 = .ok (.iconst 0, 1) := by decide +kernel
theorem dL_isSo_421 : decode cL_isSo 421 = .ok (.istore 10, 2) := by decide +kernel
theorem dL_isSo_423 : decode cL_isSo 423 = .ok (.iconst 0, 1) := by decide +kernel
theorem dL_isSo_424 : decode cL_isSo 424 = .ok (.istore 11, 2) := by decide +kernel
theorem dL_isSo_426 : decode cL_isSo 426 = .ok (.iload 11, 2) := by decide +kernel
theorem dL_isSo_428 : decode cL_isSo 428 = .ok (.iload_n 1, 1) := by decide +kernel
theorem dL_isSo_429 : decode cL_isSo 429 = .ok (.if_icmp .ge 33, 3) := by decide +kernel
theorem dL_isSo_432 : decode cL_isSo 432 = .ok (.iload 7, 2) := by decide +kernel
theorem dL_isSo_434 : decode cL_isSo 434 = .ok (.aload_n 0, 1) := by decide +kernel
theorem dL_isSo_435 : decode cL_isSo 435 = .ok (.iload 11, 2) := by decide +kernel
theorem dL_isSo_437 : decode cL_isSo 437 = .ok (.iconst 4, 1) := by decide +kernel
theorem dL_isSo_438 : decode cL_isSo 438 = .ok (.invokevirtual 36, 3) := by decide +kernel
theorem dL_isSo_441 : decode cL_isSo 441 = .ok (.iadd, 1) := by decide +kernel
theorem dL_isSo_442 : decode cL_isSo 442 = .ok (.istore 7, 2) := by decide +kernel
theorem dL_isSo_444 : decode cL_isSo 444 = .ok (.iload 10, 2) := by decide +kernel
theorem dL_isSo_446 : decode cL_isSo 446 = .ok (.aload_n 0, 1) := by decide +kernel
theorem dL_isSo_447 : decode cL_isSo 447 = .ok (.iload 11, 2) := by decide +kernel
theorem dL_isSo_449 : decode cL_isSo 449 = .ok (.iconst 5, 1) := by decide +kernel
theorem dL_isSo_450 : decode cL_isSo 450 = .ok (.invokevirtual 36, 3) := by decide +kernel
theorem dL_isSo_453 : decode cL_isSo 453 = .ok (.iadd, 1) := by decide +kernel
theorem dL_isSo_454 : decode cL_isSo 454 = .ok (.istore 10, 2) := by decide +kernel
theorem dL_isSo_456 : decode cL_isSo 456 = .ok (.iinc 11 1, 3) := by decide +kernel
theorem dL_isSo_459 : decode cL_isSo 459 = .ok (.goto (-33), 3) := by decide +kernel
theorem dL_isSo_462 : decode cL_isSo 462 = .ok (.aload_n 0, 1) := by decide +kernel
theorem dL_isSo_463 : decode cL_isSo 463 = .ok (.invokevirtual 105, 3) := by decide +kernel
theorem dL_isSo_466 : decode cL_isSo 466 = .ok (.istore 11, 2) := by decide +kernel
theorem dL_isSo_468 : decode cL_isSo 468 = .ok (.iload 11, 2) := by decide +kernel
theorem dL_isSo_470 : decode cL_isSo 470 = .ok (.ifCond .lt 40, 3) := by decide +kernel
theorem dL_isSo_473 : decode cL_isSo 473 = .ok (.aload_n 0, 1) := by decide +kernel
theorem dL_isSo_474 : decode cL_isSo 474 = .ok (.iload 11, 2) := by decide +kernel
theorem dL_isSo_476 : decode cL_isSo 476 = .ok (.iconst 4, 1) := by decide +kernel
theorem dL_isSo_477 : decode cL_isSo 477 = .ok (.invokevirtual 33, 3) := by decide +kernel
theorem dL_isSo_480 : decode cL_isSo 480 = .ok (.bipush 40, 2) := by decide +kernel
theorem dL_isSo_482 : decode cL_isSo 482 = .ok (.if_icmp .lt 26, 3) := by decide +kernel
theorem dL_isSo_485 : decode cL_isSo 485 = .ok (.aload_n 0, 1) := by decide +kernel
theorem dL_isSo_486 : decode cL_isSo 486 = .ok (.iload 11, 2) := by decide +kernel
theorem dL_isSo_488 : decode cL_isSo 488 = .ok (.bipush 6, 2) := by decide +kernel
theorem dL_isSo_490 : decode cL_isSo 490 = .ok (.invokevirtual 33, 3) := by decide +kernel
theorem dL_isSo_493 : decode cL_isSo 493 = .ok (.iconst 1, 1) := by decide +kernel
theorem dL_isSo_494 : decode cL_isSo 494 = .ok (.if_icmp .eq 14, 3) := by decide +kernel
theorem dL_isSo_497 : decode cL_isSo 497 = .ok (.aload_n 0, 1) := by decide +kernel
theorem dL_isSo_498 : decode cL_isSo 498 = .ok (.iload 11, 2) := by decide +kernel
theorem dL_isSo_500 : decode cL_isSo 500 = .ok (.bipush 7, 2) := by decide +kernel
theorem dL_isSo_502 : decode cL_isSo 502 = .ok (.invokevirtual 33, 3) := by decide +kernel
theorem dL_isSo_505 : decode cL_isSo 505 = .ok (.ifCond .le 5, 3) := by decide +kernel
theorem dL_isSo_508 : decode cL_isSo 508 = .ok (.iconst 0, 1) := by decide +kernel
theorem dL_isSo_509 : decode cL_isSo 509 = .ok (.ireturn, 1) := by decide +kernel
theorem dL_isSo_510 : decode cL_isSo 510 = .ok (.iconst 0, 1) := by decide +kernel
theorem dL_isSo_511 : decode cL_isSo 511 = .ok (.istore 12, 2) := by decide +kernel
theorem dL_isSo_513 : decode cL_isSo 513 = .ok (.iload 12, 2) := by decide +kernel
theorem dL_isSo_515 : decode cL_isSo 515 = .ok (.iload_n 2, 1) := by decide +kernel
theorem dL_isSo_516 : decode cL_isSo 516 = .ok (.if_icmp .ge 125, 3) := by decide +kernel
theorem dL_isSo_519 : decode cL_isSo 519 = .ok (.iload 11, 2) := by decide +kernel
theorem dL_isSo_521 : decode cL_isSo 521 = .ok (.ifCond .ge 39, 3) := by decide +kernel
theorem dL_isSo_524 : decode cL_isSo 524 = .ok (.aload_n 0, 1) := by decide +kernel
theorem dL_isSo_525 : decode cL_isSo 525 = .ok (.iload 12, 2) := by decide +kernel
theorem dL_isSo_527 : decode cL_isSo 527 = .ok (.iconst 4, 1) := by decide +kernel
theorem dL_isSo_528 : decode cL_isSo 528 = .ok (.invokevirtual 33, 3) := by decide +kernel
theorem dL_isSo_531 : decode cL_isSo 531 = .ok (.bipush 40, 2) := by decide +kernel
theorem dL_isSo_533 : decode cL_isSo 533 = .ok (.if_icmp .lt 27, 3) := by decide +kernel
theorem dL_isSo_536 : decode cL_isSo 536 = .ok (.aload_n 0, 1) := by decide +kernel
theorem dL_isSo_537 : decode cL_isSo 537 = .ok (.iload 12, 2) := by decide +kernel
theorem dL_isSo_539 : decode cL_isSo 539 = .ok (.bipush 6, 2) := by decide +kernel
theorem dL_isSo_541 : decode cL_isSo 541 = .ok (.invokevirtual 33, 3) := by decide +kernel
theorem dL_isSo_544 : decode cL_isSo 544 = .ok (.ifCond .ne 16, 3) := by decide +kernel
theorem dL_isSo_547 : decode cL_isSo 547 = .ok (.aload_n 0, 1) := by decide +kernel
theorem dL_isSo_548 : decode cL_isSo 548 = .ok (.iload 12, 2) := by decide +kernel
theorem dL_isSo_550 : decode cL_isSo 550 = .ok (.bipush 7, 2) := by decide +kernel
theorem dL_isSo_552 : decode cL_isSo 552 = .ok (.invokevirtual 33, 3) := by decide +kernel
theorem dL_isSo_555 : decode cL_isSo 555 = .ok (.ifCond .ne 5, 3) := by decide +kernel
theorem dL_isSo_558 : decode cL_isSo 558 = .ok (.iconst 0, 1) := by decide +kernel
theorem dL_isSo_559 : decode cL_isSo 559 = .ok (.ireturn, 1) := by decide +kernel
theorem dL_isSo_560 : decode cL_isSo 560 = .ok (.aload_n 0, 1) := by decide +kernel
theorem dL_isSo_561 : decode cL_isSo 561 = .ok (.invokevirtual 109, 3) := by decide +kernel
theorem dL_isSo_564 : decode cL_isSo 564 = .ok (.iload 12, 2) := by decide +kernel
theorem dL_isSo_566 : decode cL_isSo 566 = .ok (.ishr, 1) := by decide +kernel
theorem dL_isSo_567 : decode cL_isSo 567 = .ok (.iconst 1, 1) := by decide +kernel
theorem dL_isSo_568 : decode cL_isSo 568 = .ok (.iand, 1) := by decide +kernel
theorem dL_isSo_569 : decode cL_isSo 569 = .ok (.iconst 1, 1) := by decide +kernel
theorem dL_isSo_570 : decode cL_isSo 570 = .ok (.if_icmp .ne 41, 3) := by decide +kernel
theorem dL_isSo_573 : decode cL_isSo 573 = .ok (.aload_n 0, 1) := by decide +kernel
theorem dL_isSo_574 : decode cL_isSo 574 = .ok (.iload 12, 2) := by decide +kernel
theorem dL_isSo_576 : decode cL_isSo 576 = .ok (.bipush 6, 2) := by decide +kernel
theorem dL_isSo_578 : decode cL_isSo 578 = .ok (.invokevirtual 33, 3) := by decide +kernel
theorem dL_isSo_581 : decode cL_isSo 581 = .ok (.iconst 1, 1) := by decide +kernel
theorem dL_isSo_582 : decode cL_isSo 582 = .ok (.if_icmp .eq 51, 3) := by decide +kernel
theorem dL_isSo_585 : decode cL_isSo 585 = .ok (.aload_n 0, 1) := by decide +kernel
theorem dL_isSo_586 : decode cL_isSo 586 = .ok (.iload 12, 2) := by decide +kernel
theorem dL_isSo_588 : decode cL_isSo 588 = .ok (.bipush 7, 2) := by decide +kernel
theorem dL_isSo_590 : decode cL_isSo 590 = .ok (.invokevirtual 33, 3) := by decide +kernel
theorem dL_isSo_593 : decode cL_isSo 593 = .ok (.ifCond .gt 40, 3) := by decide +kernel
theorem dL_isSo_596 : decode cL_isSo 596 = .ok (.aload_n 0, 1) := by decide +kernel
theorem dL_isSo_597 : decode cL_isSo 597 = .ok (.iload 12, 2) := by decide +kernel
theorem dL_isSo_599 : decode cL_isSo 599 = .ok (.iconst 2, 1) := by decide +kernel
theorem dL_isSo_600 : decode cL_isSo 600 = .ok (.invokevirtual 33, 3) := by decide +kernel
theorem dL_isSo_603 : decode cL_isSo 603 = .ok (.bipush 30, 2) := by decide +kernel
theorem dL_isSo_605 : decode cL_isSo 605 = .ok (.if_icmp .ge 30, 3) := by decide +kernel
theorem dL_isSo_608 : decode cL_isSo 608 = .ok (.goto 25, 3) := by decide +kernel
theorem dL_isSo_611 : decode cL_isSo 611 = .ok (.aload_n 0, 1) := by decide +kernel
theorem dL_isSo_612 : decode cL_isSo 612 = .ok (.iload 12, 2) := by decide +kernel
theorem dL_isSo_614 : decode cL_isSo 614 = .ok (.bipush 6, 2) := by decide +kernel
theorem dL_isSo_616 : decode cL_isSo 616 = .ok (.invokevirtual 33, 3) := by decide +kernel
theorem dL_isSo_619 : decode cL_isSo 619 = .ok (.ifCond .ne 16, 3) := by decide +kernel
theorem dL_isSo_622 : decode cL_isSo 622 = .ok (.aload_n 0, 1) := by decide +kernel
theorem dL_isSo_623 : decode cL_isSo 623 = .ok (.iload 12, 2) := by decide +kernel
theorem dL_isSo_625 : decode cL_isSo 625 = .ok (.bipush 8, 2) := by decide +kernel
theorem dL_isSo_627 : decode cL_isSo 627 = .ok (.invokevirtual 33, 3) := by decide +kernel
theorem dL_isSo_630 : decode cL_isSo 630 = .ok (.ifCond .ne 5, 3) := by decide +kernel
theorem dL_isSo_633 : decode cL_isSo 633 = .ok (.iconst 0, 1) := by decide +kernel
theorem dL_isSo_634 : decode cL_isSo 634 = .ok (.ireturn, 1) := by decide +kernel
theorem dL_isSo_635 : decode cL_isSo 635 = .ok (.iinc 12 1, 3) := by decide +kernel
theorem dL_isSo_638 : decode cL_isSo 638 = .ok (.goto (-125), 3) := by decide +kernel
theorem dL_isSo_641 : decode cL_isSo 641 = .ok (.aload_n 0, 1) := by decide +kernel
theorem dL_isSo_642 : decode cL_isSo 642 = .ok (.bipush 14, 2) := by decide +kernel
theorem dL_isSo_644 : decode cL_isSo 644 = .ok (.invokevirtual 46, 3) := by decide +kernel
theorem dL_isSo_647 : decode cL_isSo 647 = .ok (.iload 4, 2) := by decide +kernel
theorem dL_isSo_649 : decode cL_isSo 649 = .ok (.if_icmp .ne 105, 3) := by decide +kernel
theorem dL_isSo_652 : decode cL_isSo 652 = .ok (.aload_n 0, 1) := by decide +kernel
theorem dL_isSo_653 : decode cL_isSo 653 = .ok (.bipush 8, 2) := by decide +kernel
theorem dL_isSo_655 : decode cL_isSo 655 = .ok (.invokevirtual 46, 3) := by decide +kernel
theorem dL_isSo_658 : decode cL_isSo 658 = .ok (.iload 5, 2) := by decide +kernel
theorem dL_isSo_660 : decode cL_isSo 660 = .ok (.if_icmp .ne 94, 3) := by decide +kernel
theorem dL_isSo_663 : decode cL_isSo 663 = .ok (.aload_n 0, 1) := by decide +kernel
theorem dL_isSo_664 : decode cL_isSo 664 = .ok (.iconst 3, 1) := by decide +kernel
theorem dL_isSo_665 : decode cL_isSo 665 = .ok (.invokevirtual 46, 3) := by decide +kernel
theorem dL_isSo_668 : decode cL_isSo 668 = .ok (.iload 6, 2) := by decide +kernel
theorem dL_isSo_670 : decode cL_isSo 670 = .ok (.if_icmp .ne 84, 3) := by decide +kernel
theorem dL_isSo_673 : decode cL_isSo 673 = .ok (.iload 10, 2) := by decide +kernel
theorem dL_isSo_675 : decode cL_isSo 675 = .ok (.iload 6, 2) := by decide +kernel
theorem dL_isSo_677 : decode cL_isSo 677 = .ok (.if_icmp .ne 77, 3) := by decide +kernel
theorem dL_isSo_680 : decode cL_isSo 680 = .ok (.aload_n 0, 1) := by decide +kernel
theorem dL_isSo_681 : decode cL_isSo 681 = .ok (.bipush 12, 2) := by decide +kernel
theorem dL_isSo_683 : decode cL_isSo 683 = .ok (.invokevirtual 46, 3) := by decide +kernel
theorem dL_isSo_686 : decode cL_isSo 686 = .ok (.iload 7, 2) := by decide +kernel
theorem dL_isSo_688 : decode cL_isSo 688 = .ok (.if_icmp .ne 66, 3) := by decide +kernel
theorem dL_isSo_691 : decode cL_isSo 691 = .ok (.iload 8, 2) := by decide +kernel
theorem dL_isSo_693 : decode cL_isSo 693 = .ok (.iload 7, 2) := by decide +kernel
theorem dL_isSo_695 : decode cL_isSo 695 = .ok (.if_icmp .ne 59, 3) := by decide +kernel
theorem dL_isSo_698 : decode cL_isSo 698 = .ok (.aload_n 0, 1) := by decide +kernel
theorem dL_isSo_699 : decode cL_isSo 699 = .ok (.bipush 9, 2) := by decide +kernel
theorem dL_isSo_701 : decode cL_isSo 701 = .ok (.invokevirtual 46, 3) := by decide +kernel
theorem dL_isSo_704 : decode cL_isSo 704 = .ok (.aload_n 0, 1) := by decide +kernel
theorem dL_isSo_705 : decode cL_isSo 705 = .ok (.bipush 8, 2) := by decide +kernel
theorem dL_isSo_707 : decode cL_isSo 707 = .ok (.invokevirtual 46, 3) := by decide +kernel
theorem dL_isSo_710 : decode cL_isSo 710 = .ok (.if_icmp .gt 44, 3) := by decide +kernel
theorem dL_isSo_713 : decode cL_isSo 713 = .ok (.aload_n 0, 1) := by decide +kernel
theorem dL_isSo_714 : decode cL_isSo 714 = .ok (.bipush 10, 2) := by decide +kernel
theorem dL_isSo_716 : decode cL_isSo 716 = .ok (.invokevirtual 46, 3) := by decide +kernel
theorem dL_isSo_719 : decode cL_isSo 719 = .ok (.aload_n 0, 1) := by decide +kernel
theorem dL_isSo_720 : decode cL_isSo 720 = .ok (.bipush 8, 2) := by decide +kernel
theorem dL_isSo_722 : decode cL_isSo 722 = .ok (.invokevirtual 46, 3) := by decide +kernel
theorem dL_isSo_725 : decode cL_isSo 725 = .ok (.if_icmp .gt 29, 3) := by decide +kernel
theorem dL_isSo_728 : decode cL_isSo 728 = .ok (.aload_n 0, 1) := by decide +kernel
theorem dL_isSo_729 : decode cL_isSo 729 = .ok (.invokevirtual 112, 3) := by decide +kernel
theorem dL_isSo_732 : decode cL_isSo 732 = .ok (.iload 9, 2) := by decide +kernel
theorem dL_isSo_734 : decode cL_isSo 734 = .ok (.i2d, 1) := by decide +kernel
theorem dL_isSo_735 : decode cL_isSo 735 = .ok (.dmul, 1) := by decide +kernel
theorem dL_isSo_736 : decode cL_isSo 736 = .ok (.iload 4, 2) := by decide +kernel
theorem dL_isSo_738 : decode cL_isSo 738 = .ok (.i2d, 1) := by decide +kernel
theorem dL_isSo_739 : decode cL_isSo 739 = .ok (.dsub, 1) := by decide +kernel
theorem dL_isSo_740 : decode cL_isSo 740 = .ok (.invokestatic 116, 3) := by decide +kernel
theorem dL_isSo_743 : decode cL_isSo 743 = .ok (.ldc2_w 119, 3) := by decide +kernel
theorem dL_isSo_746 : decode cL_isSo 746 = .ok (.dcmp .g, 1) := by decide +kernel
theorem dL_isSo_747 : decode cL_isSo 747 = .ok (.ifCond .ge 7, 3) := by decide +kernel
theorem dL_isSo_750 : decode cL_isSo 750 = .ok (.iconst 1, 1) := by decide +kernel
theorem dL_isSo_751 : decode cL_isSo 751 = .ok (.goto 4, 3) := by decide +kernel
theorem dL_isSo_754 : decode cL_isSo 754 = .ok (.iconst 0, 1) := by decide +kernel
theorem dL_isSo_755 : decode cL_isSo 755 = .ok (.ireturn, 1) := by decide +kernel
