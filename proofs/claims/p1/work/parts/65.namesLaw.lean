-- printed rows that the walks use
theorem dL_law_1032 : decode cL_law 1032 = .ok (.aload_n 1, 1) := by decide +kernel
theorem dL_law_1033 : decode cL_law 1033 = .ok (.aload_n 0, 1) := by decide +kernel
theorem dL_law_1034 : decode cL_law 1034 = .ok (.iload 4, 2) := by decide +kernel
theorem dL_law_1036 : decode cL_law 1036 = .ok (.iconst 1, 1) := by decide +kernel
theorem dL_law_1037 : decode cL_law 1037 = .ok (.iadd, 1) := by decide +kernel
theorem dL_law_1038 : decode cL_law 1038 = .ok (.iaload, 1) := by decide +kernel
theorem dL_law_1039 : decode cL_law 1039 = .ok (.aload_n 3, 1) := by decide +kernel
theorem dL_law_1040 : decode cL_law 1040 = .ok (.invokestatic 177, 3) := by decide +kernel
theorem dL_law_1043 : decode cL_law 1043 = .ok (.istore 5, 2) := by decide +kernel
theorem dL_law_1045 : decode cL_law 1045 = .ok (.aload_n 2, 1) := by decide +kernel
theorem dL_law_1046 : decode cL_law 1046 = .ok (.aload_n 0, 1) := by decide +kernel
theorem dL_law_1047 : decode cL_law 1047 = .ok (.iload 4, 2) := by decide +kernel
theorem dL_law_1049 : decode cL_law 1049 = .ok (.iconst 1, 1) := by decide +kernel
theorem dL_law_1050 : decode cL_law 1050 = .ok (.iadd, 1) := by decide +kernel
theorem dL_law_1051 : decode cL_law 1051 = .ok (.iaload, 1) := by decide +kernel
theorem dL_law_1052 : decode cL_law 1052 = .ok (.invokevirtual 179, 3) := by decide +kernel
theorem dL_law_1055 : decode cL_law 1055 = .ok (.istore 6, 2) := by decide +kernel
theorem dL_law_1057 : decode cL_law 1057 = .ok (.aload_n 2, 1) := by decide +kernel
theorem dL_law_1058 : decode cL_law 1058 = .ok (.invokevirtual 130, 3) := by decide +kernel
theorem dL_law_1061 : decode cL_law 1061 = .ok (.iload 5, 2) := by decide +kernel
theorem dL_law_1063 : decode cL_law 1063 = .ok (.if_icmp .eq 5, 3) := by decide +kernel
theorem dL_law_1068 : decode cL_law 1068 = .ok (.iload 5, 2) := by decide +kernel
theorem dL_law_1070 : decode cL_law 1070 = .ok (.ifCond .ne 22, 3) := by decide +kernel
theorem dL_law_1092 : decode cL_law 1092 = .ok (.goto 1947, 3) := by decide +kernel
theorem dL_law_1095 : decode cL_law 1095 = .ok (.aload_n 1, 1) := by decide +kernel
theorem dL_law_1096 : decode cL_law 1096 = .ok (.aload_n 0, 1) := by decide +kernel
theorem dL_law_1097 : decode cL_law 1097 = .ok (.iload 4, 2) := by decide +kernel
theorem dL_law_1099 : decode cL_law 1099 = .ok (.iconst 1, 1) := by decide +kernel
theorem dL_law_1100 : decode cL_law 1100 = .ok (.iadd, 1) := by decide +kernel
theorem dL_law_1101 : decode cL_law 1101 = .ok (.iaload, 1) := by decide +kernel
theorem dL_law_1102 : decode cL_law 1102 = .ok (.aload_n 0, 1) := by decide +kernel
theorem dL_law_1103 : decode cL_law 1103 = .ok (.iload 4, 2) := by decide +kernel
theorem dL_law_1105 : decode cL_law 1105 = .ok (.iconst 2, 1) := by decide +kernel
theorem dL_law_1106 : decode cL_law 1106 = .ok (.iadd, 1) := by decide +kernel
theorem dL_law_1107 : decode cL_law 1107 = .ok (.iaload, 1) := by decide +kernel
theorem dL_law_1108 : decode cL_law 1108 = .ok (.aload_n 3, 1) := by decide +kernel
theorem dL_law_1109 : decode cL_law 1109 = .ok (.invokestatic 180, 3) := by decide +kernel
theorem dL_law_1112 : decode cL_law 1112 = .ok (.istore 5, 2) := by decide +kernel
theorem dL_law_1114 : decode cL_law 1114 = .ok (.aload_n 2, 1) := by decide +kernel
theorem dL_law_1115 : decode cL_law 1115 = .ok (.aload_n 0, 1) := by decide +kernel
theorem dL_law_1116 : decode cL_law 1116 = .ok (.iload 4, 2) := by decide +kernel
theorem dL_law_1118 : decode cL_law 1118 = .ok (.iconst 1, 1) := by decide +kernel
theorem dL_law_1119 : decode cL_law 1119 = .ok (.iadd, 1) := by decide +kernel
theorem dL_law_1120 : decode cL_law 1120 = .ok (.iaload, 1) := by decide +kernel
theorem dL_law_1121 : decode cL_law 1121 = .ok (.aload_n 0, 1) := by decide +kernel
theorem dL_law_1122 : decode cL_law 1122 = .ok (.iload 4, 2) := by decide +kernel
theorem dL_law_1124 : decode cL_law 1124 = .ok (.iconst 2, 1) := by decide +kernel
theorem dL_law_1125 : decode cL_law 1125 = .ok (.iadd, 1) := by decide +kernel
theorem dL_law_1126 : decode cL_law 1126 = .ok (.iaload, 1) := by decide +kernel
theorem dL_law_1127 : decode cL_law 1127 = .ok (.invokevirtual 182, 3) := by decide +kernel
theorem dL_law_1130 : decode cL_law 1130 = .ok (.istore 6, 2) := by decide +kernel
theorem dL_law_1132 : decode cL_law 1132 = .ok (.aload_n 2, 1) := by decide +kernel
theorem dL_law_1133 : decode cL_law 1133 = .ok (.invokevirtual 130, 3) := by decide +kernel
theorem dL_law_1136 : decode cL_law 1136 = .ok (.iload 5, 2) := by decide +kernel
theorem dL_law_1138 : decode cL_law 1138 = .ok (.if_icmp .eq 5, 3) := by decide +kernel
theorem dL_law_1143 : decode cL_law 1143 = .ok (.iload 5, 2) := by decide +kernel
theorem dL_law_1145 : decode cL_law 1145 = .ok (.ifCond .ne 15, 3) := by decide +kernel
theorem dL_law_1160 : decode cL_law 1160 = .ok (.goto 1879, 3) := by decide +kernel
theorem dL_law_1163 : decode cL_law 1163 = .ok (.aload_n 1, 1) := by decide +kernel
theorem dL_law_1164 : decode cL_law 1164 = .ok (.aload_n 0, 1) := by decide +kernel
theorem dL_law_1165 : decode cL_law 1165 = .ok (.iload 4, 2) := by decide +kernel
theorem dL_law_1167 : decode cL_law 1167 = .ok (.iconst 1, 1) := by decide +kernel
theorem dL_law_1168 : decode cL_law 1168 = .ok (.iadd, 1) := by decide +kernel
theorem dL_law_1169 : decode cL_law 1169 = .ok (.iaload, 1) := by decide +kernel
theorem dL_law_1170 : decode cL_law 1170 = .ok (.aload_n 0, 1) := by decide +kernel
theorem dL_law_1171 : decode cL_law 1171 = .ok (.iload 4, 2) := by decide +kernel
theorem dL_law_1173 : decode cL_law 1173 = .ok (.iconst 2, 1) := by decide +kernel
theorem dL_law_1174 : decode cL_law 1174 = .ok (.iadd, 1) := by decide +kernel
theorem dL_law_1175 : decode cL_law 1175 = .ok (.iaload, 1) := by decide +kernel
theorem dL_law_1176 : decode cL_law 1176 = .ok (.i2l, 1) := by decide +kernel
theorem dL_law_1177 : decode cL_law 1177 = .ok (.bipush 32, 2) := by decide +kernel
theorem dL_law_1179 : decode cL_law 1179 = .ok (.lshl, 1) := by decide +kernel
theorem dL_law_1180 : decode cL_law 1180 = .ok (.aload_n 0, 1) := by decide +kernel
theorem dL_law_1181 : decode cL_law 1181 = .ok (.iload 4, 2) := by decide +kernel
theorem dL_law_1183 : decode cL_law 1183 = .ok (.iconst 3, 1) := by decide +kernel
theorem dL_law_1184 : decode cL_law 1184 = .ok (.iadd, 1) := by decide +kernel
theorem dL_law_1185 : decode cL_law 1185 = .ok (.iaload, 1) := by decide +kernel
theorem dL_law_1186 : decode cL_law 1186 = .ok (.i2l, 1) := by decide +kernel
theorem dL_law_1187 : decode cL_law 1187 = .ok (.ldc2_w 137, 3) := by decide +kernel
theorem dL_law_1190 : decode cL_law 1190 = .ok (.land, 1) := by decide +kernel
theorem dL_law_1191 : decode cL_law 1191 = .ok (.lor, 1) := by decide +kernel
theorem dL_law_1192 : decode cL_law 1192 = .ok (.aload_n 3, 1) := by decide +kernel
theorem dL_law_1193 : decode cL_law 1193 = .ok (.invokestatic 183, 3) := by decide +kernel
theorem dL_law_1196 : decode cL_law 1196 = .ok (.istore 5, 2) := by decide +kernel
theorem dL_law_1198 : decode cL_law 1198 = .ok (.aload_n 2, 1) := by decide +kernel
theorem dL_law_1199 : decode cL_law 1199 = .ok (.aload_n 0, 1) := by decide +kernel
theorem dL_law_1200 : decode cL_law 1200 = .ok (.iload 4, 2) := by decide +kernel
theorem dL_law_1202 : decode cL_law 1202 = .ok (.iconst 1, 1) := by decide +kernel
theorem dL_law_1203 : decode cL_law 1203 = .ok (.iadd, 1) := by decide +kernel
theorem dL_law_1204 : decode cL_law 1204 = .ok (.iaload, 1) := by decide +kernel
theorem dL_law_1205 : decode cL_law 1205 = .ok (.aload_n 0, 1) := by decide +kernel
theorem dL_law_1206 : decode cL_law 1206 = .ok (.iload 4, 2) := by decide +kernel
theorem dL_law_1208 : decode cL_law 1208 = .ok (.iconst 2, 1) := by decide +kernel
theorem dL_law_1209 : decode cL_law 1209 = .ok (.iadd, 1) := by decide +kernel
theorem dL_law_1210 : decode cL_law 1210 = .ok (.iaload, 1) := by decide +kernel
theorem dL_law_1211 : decode cL_law 1211 = .ok (.i2l, 1) := by decide +kernel
theorem dL_law_1212 : decode cL_law 1212 = .ok (.bipush 32, 2) := by decide +kernel
theorem dL_law_1214 : decode cL_law 1214 = .ok (.lshl, 1) := by decide +kernel
theorem dL_law_1215 : decode cL_law 1215 = .ok (.aload_n 0, 1) := by decide +kernel
theorem dL_law_1216 : decode cL_law 1216 = .ok (.iload 4, 2) := by decide +kernel
theorem dL_law_1218 : decode cL_law 1218 = .ok (.iconst 3, 1) := by decide +kernel
theorem dL_law_1219 : decode cL_law 1219 = .ok (.iadd, 1) := by decide +kernel
theorem dL_law_1220 : decode cL_law 1220 = .ok (.iaload, 1) := by decide +kernel
theorem dL_law_1221 : decode cL_law 1221 = .ok (.i2l, 1) := by decide +kernel
theorem dL_law_1222 : decode cL_law 1222 = .ok (.ldc2_w 137, 3) := by decide +kernel
theorem dL_law_1225 : decode cL_law 1225 = .ok (.land, 1) := by decide +kernel
theorem dL_law_1226 : decode cL_law 1226 = .ok (.lor, 1) := by decide +kernel
theorem dL_law_1227 : decode cL_law 1227 = .ok (.invokevirtual 185, 3) := by decide +kernel
theorem dL_law_1230 : decode cL_law 1230 = .ok (.istore 6, 2) := by decide +kernel
theorem dL_law_1232 : decode cL_law 1232 = .ok (.aload_n 2, 1) := by decide +kernel
theorem dL_law_1233 : decode cL_law 1233 = .ok (.invokevirtual 130, 3) := by decide +kernel
theorem dL_law_1236 : decode cL_law 1236 = .ok (.iload 5, 2) := by decide +kernel
theorem dL_law_1238 : decode cL_law 1238 = .ok (.if_icmp .eq 5, 3) := by decide +kernel
theorem dL_law_1243 : decode cL_law 1243 = .ok (.iload 5, 2) := by decide +kernel
theorem dL_law_1245 : decode cL_law 1245 = .ok (.ifCond .ne 15, 3) := by decide +kernel
theorem dL_law_1260 : decode cL_law 1260 = .ok (.goto 1779, 3) := by decide +kernel
theorem dL_law_1263 : decode cL_law 1263 = .ok (.aload_n 1, 1) := by decide +kernel
theorem dL_law_1264 : decode cL_law 1264 = .ok (.aload_n 3, 1) := by decide +kernel
theorem dL_law_1265 : decode cL_law 1265 = .ok (.invokestatic 186, 3) := by decide +kernel
theorem dL_law_1268 : decode cL_law 1268 = .ok (.istore 5, 2) := by decide +kernel
theorem dL_law_1270 : decode cL_law 1270 = .ok (.aload_n 2, 1) := by decide +kernel
theorem dL_law_1271 : decode cL_law 1271 = .ok (.invokevirtual 188, 3) := by decide +kernel
theorem dL_law_1274 : decode cL_law 1274 = .ok (.istore 6, 2) := by decide +kernel
theorem dL_law_1276 : decode cL_law 1276 = .ok (.aload_n 2, 1) := by decide +kernel
theorem dL_law_1277 : decode cL_law 1277 = .ok (.invokevirtual 130, 3) := by decide +kernel
theorem dL_law_1280 : decode cL_law 1280 = .ok (.iload 5, 2) := by decide +kernel
theorem dL_law_1282 : decode cL_law 1282 = .ok (.if_icmp .eq 5, 3) := by decide +kernel
theorem dL_law_1287 : decode cL_law 1287 = .ok (.iload 5, 2) := by decide +kernel
theorem dL_law_1289 : decode cL_law 1289 = .ok (.ifCond .ne 15, 3) := by decide +kernel
theorem dL_law_1304 : decode cL_law 1304 = .ok (.goto 1735, 3) := by decide +kernel
theorem dL_law_1307 : decode cL_law 1307 = .ok (.aload_n 1, 1) := by decide +kernel
theorem dL_law_1308 : decode cL_law 1308 = .ok (.aload_n 0, 1) := by decide +kernel
theorem dL_law_1309 : decode cL_law 1309 = .ok (.iload 4, 2) := by decide +kernel
theorem dL_law_1311 : decode cL_law 1311 = .ok (.iconst 1, 1) := by decide +kernel
theorem dL_law_1312 : decode cL_law 1312 = .ok (.iadd, 1) := by decide +kernel
theorem dL_law_1313 : decode cL_law 1313 = .ok (.iaload, 1) := by decide +kernel
theorem dL_law_1314 : decode cL_law 1314 = .ok (.aload_n 0, 1) := by decide +kernel
theorem dL_law_1315 : decode cL_law 1315 = .ok (.iload 4, 2) := by decide +kernel
theorem dL_law_1317 : decode cL_law 1317 = .ok (.iconst 2, 1) := by decide +kernel
theorem dL_law_1318 : decode cL_law 1318 = .ok (.iadd, 1) := by decide +kernel
theorem dL_law_1319 : decode cL_law 1319 = .ok (.iaload, 1) := by decide +kernel
theorem dL_law_1320 : decode cL_law 1320 = .ok (.aload_n 3, 1) := by decide +kernel
theorem dL_law_1321 : decode cL_law 1321 = .ok (.invokestatic 189, 3) := by decide +kernel
theorem dL_law_1324 : decode cL_law 1324 = .ok (.istore 5, 2) := by decide +kernel
theorem dL_law_1326 : decode cL_law 1326 = .ok (.aload_n 2, 1) := by decide +kernel
theorem dL_law_1327 : decode cL_law 1327 = .ok (.aload_n 0, 1) := by decide +kernel
theorem dL_law_1328 : decode cL_law 1328 = .ok (.iload 4, 2) := by decide +kernel
theorem dL_law_1330 : decode cL_law 1330 = .ok (.iconst 1, 1) := by decide +kernel
theorem dL_law_1331 : decode cL_law 1331 = .ok (.iadd, 1) := by decide +kernel
theorem dL_law_1332 : decode cL_law 1332 = .ok (.iaload, 1) := by decide +kernel
theorem dL_law_1333 : decode cL_law 1333 = .ok (.aload_n 0, 1) := by decide +kernel
theorem dL_law_1334 : decode cL_law 1334 = .ok (.iload 4, 2) := by decide +kernel
theorem dL_law_1336 : decode cL_law 1336 = .ok (.iconst 2, 1) := by decide +kernel
theorem dL_law_1337 : decode cL_law 1337 = .ok (.iadd, 1) := by decide +kernel
theorem dL_law_1338 : decode cL_law 1338 = .ok (.iaload, 1) := by decide +kernel
theorem dL_law_1339 : decode cL_law 1339 = .ok (.invokevirtual 191, 3) := by decide +kernel
theorem dL_law_1342 : decode cL_law 1342 = .ok (.lstore 6, 2) := by decide +kernel
theorem dL_law_1344 : decode cL_law 1344 = .ok (.aload_n 2, 1) := by decide +kernel
theorem dL_law_1345 : decode cL_law 1345 = .ok (.invokevirtual 130, 3) := by decide +kernel
theorem dL_law_1348 : decode cL_law 1348 = .ok (.iload 5, 2) := by decide +kernel
theorem dL_law_1350 : decode cL_law 1350 = .ok (.if_icmp .eq 5, 3) := by decide +kernel
theorem dL_law_1355 : decode cL_law 1355 = .ok (.iload 5, 2) := by decide +kernel
theorem dL_law_1357 : decode cL_law 1357 = .ok (.ifCond .ne 14, 3) := by decide +kernel
theorem dL_law_1371 : decode cL_law 1371 = .ok (.goto 1668, 3) := by decide +kernel
theorem dL_law_1374 : decode cL_law 1374 = .ok (.aload_n 1, 1) := by decide +kernel
theorem dL_law_1375 : decode cL_law 1375 = .ok (.aload_n 0, 1) := by decide +kernel
theorem dL_law_1376 : decode cL_law 1376 = .ok (.iload 4, 2) := by decide +kernel
theorem dL_law_1378 : decode cL_law 1378 = .ok (.iconst 1, 1) := by decide +kernel
theorem dL_law_1379 : decode cL_law 1379 = .ok (.iadd, 1) := by decide +kernel
theorem dL_law_1380 : decode cL_law 1380 = .ok (.iaload, 1) := by decide +kernel
theorem dL_law_1381 : decode cL_law 1381 = .ok (.aload_n 3, 1) := by decide +kernel
theorem dL_law_1382 : decode cL_law 1382 = .ok (.invokestatic 192, 3) := by decide +kernel
theorem dL_law_1385 : decode cL_law 1385 = .ok (.istore 5, 2) := by decide +kernel
theorem dL_law_1387 : decode cL_law 1387 = .ok (.aload_n 2, 1) := by decide +kernel
theorem dL_law_1388 : decode cL_law 1388 = .ok (.aload_n 0, 1) := by decide +kernel
theorem dL_law_1389 : decode cL_law 1389 = .ok (.iload 4, 2) := by decide +kernel
theorem dL_law_1391 : decode cL_law 1391 = .ok (.iconst 1, 1) := by decide +kernel
theorem dL_law_1392 : decode cL_law 1392 = .ok (.iadd, 1) := by decide +kernel
theorem dL_law_1393 : decode cL_law 1393 = .ok (.iaload, 1) := by decide +kernel
theorem dL_law_1394 : decode cL_law 1394 = .ok (.invokevirtual 194, 3) := by decide +kernel
theorem dL_law_1397 : decode cL_law 1397 = .ok (.lstore 6, 2) := by decide +kernel
theorem dL_law_1399 : decode cL_law 1399 = .ok (.aload_n 2, 1) := by decide +kernel
theorem dL_law_1400 : decode cL_law 1400 = .ok (.invokevirtual 130, 3) := by decide +kernel
theorem dL_law_1403 : decode cL_law 1403 = .ok (.iload 5, 2) := by decide +kernel
theorem dL_law_1405 : decode cL_law 1405 = .ok (.if_icmp .eq 5, 3) := by decide +kernel
theorem dL_law_1410 : decode cL_law 1410 = .ok (.iload 5, 2) := by decide +kernel
theorem dL_law_1412 : decode cL_law 1412 = .ok (.ifCond .ne 14, 3) := by decide +kernel
theorem dL_law_1426 : decode cL_law 1426 = .ok (.goto 1613, 3) := by decide +kernel
theorem dL_law_1429 : decode cL_law 1429 = .ok (.aload_n 1, 1) := by decide +kernel
theorem dL_law_1430 : decode cL_law 1430 = .ok (.aload_n 0, 1) := by decide +kernel
theorem dL_law_1431 : decode cL_law 1431 = .ok (.iload 4, 2) := by decide +kernel
theorem dL_law_1433 : decode cL_law 1433 = .ok (.iconst 1, 1) := by decide +kernel
theorem dL_law_1434 : decode cL_law 1434 = .ok (.iadd, 1) := by decide +kernel
theorem dL_law_1435 : decode cL_law 1435 = .ok (.iaload, 1) := by decide +kernel
theorem dL_law_1436 : decode cL_law 1436 = .ok (.i2l, 1) := by decide +kernel
theorem dL_law_1437 : decode cL_law 1437 = .ok (.bipush 32, 2) := by decide +kernel
theorem dL_law_1439 : decode cL_law 1439 = .ok (.lshl, 1) := by decide +kernel
theorem dL_law_1440 : decode cL_law 1440 = .ok (.aload_n 0, 1) := by decide +kernel
theorem dL_law_1441 : decode cL_law 1441 = .ok (.iload 4, 2) := by decide +kernel
theorem dL_law_1443 : decode cL_law 1443 = .ok (.iconst 2, 1) := by decide +kernel
theorem dL_law_1444 : decode cL_law 1444 = .ok (.iadd, 1) := by decide +kernel
theorem dL_law_1445 : decode cL_law 1445 = .ok (.iaload, 1) := by decide +kernel
theorem dL_law_1446 : decode cL_law 1446 = .ok (.i2l, 1) := by decide +kernel
theorem dL_law_1447 : decode cL_law 1447 = .ok (.ldc2_w 137, 3) := by decide +kernel
theorem dL_law_1450 : decode cL_law 1450 = .ok (.land, 1) := by decide +kernel
theorem dL_law_1451 : decode cL_law 1451 = .ok (.lor, 1) := by decide +kernel
theorem dL_law_1452 : decode cL_law 1452 = .ok (.aload_n 0, 1) := by decide +kernel
theorem dL_law_1453 : decode cL_law 1453 = .ok (.iload 4, 2) := by decide +kernel
theorem dL_law_1455 : decode cL_law 1455 = .ok (.iconst 3, 1) := by decide +kernel
theorem dL_law_1456 : decode cL_law 1456 = .ok (.iadd, 1) := by decide +kernel
theorem dL_law_1457 : decode cL_law 1457 = .ok (.iaload, 1) := by decide +kernel
theorem dL_law_1458 : decode cL_law 1458 = .ok (.i2l, 1) := by decide +kernel
theorem dL_law_1459 : decode cL_law 1459 = .ok (.bipush 32, 2) := by decide +kernel
theorem dL_law_1461 : decode cL_law 1461 = .ok (.lshl, 1) := by decide +kernel
theorem dL_law_1462 : decode cL_law 1462 = .ok (.aload_n 0, 1) := by decide +kernel
theorem dL_law_1463 : decode cL_law 1463 = .ok (.iload 4, 2) := by decide +kernel
theorem dL_law_1465 : decode cL_law 1465 = .ok (.iconst 4, 1) := by decide +kernel
theorem dL_law_1466 : decode cL_law 1466 = .ok (.iadd, 1) := by decide +kernel
theorem dL_law_1467 : decode cL_law 1467 = .ok (.iaload, 1) := by decide +kernel
theorem dL_law_1468 : decode cL_law 1468 = .ok (.i2l, 1) := by decide +kernel
theorem dL_law_1469 : decode cL_law 1469 = .ok (.ldc2_w 137, 3) := by decide +kernel
theorem dL_law_1472 : decode cL_law 1472 = .ok (.land, 1) := by decide +kernel
theorem dL_law_1473 : decode cL_law 1473 = .ok (.lor, 1) := by decide +kernel
theorem dL_law_1474 : decode cL_law 1474 = .ok (.aload_n 0, 1) := by decide +kernel
theorem dL_law_1475 : decode cL_law 1475 = .ok (.iload 4, 2) := by decide +kernel
theorem dL_law_1477 : decode cL_law 1477 = .ok (.iconst 5, 1) := by decide +kernel
theorem dL_law_1478 : decode cL_law 1478 = .ok (.iadd, 1) := by decide +kernel
theorem dL_law_1479 : decode cL_law 1479 = .ok (.iaload, 1) := by decide +kernel
theorem dL_law_1480 : decode cL_law 1480 = .ok (.aload_n 0, 1) := by decide +kernel
theorem dL_law_1481 : decode cL_law 1481 = .ok (.iload 4, 2) := by decide +kernel
theorem dL_law_1483 : decode cL_law 1483 = .ok (.bipush 6, 2) := by decide +kernel
theorem dL_law_1485 : decode cL_law 1485 = .ok (.iadd, 1) := by decide +kernel
theorem dL_law_1486 : decode cL_law 1486 = .ok (.iaload, 1) := by decide +kernel
theorem dL_law_1487 : decode cL_law 1487 = .ok (.aload_n 3, 1) := by decide +kernel
theorem dL_law_1488 : decode cL_law 1488 = .ok (.invokestatic 195, 3) := by decide +kernel
theorem dL_law_1491 : decode cL_law 1491 = .ok (.istore 5, 2) := by decide +kernel
theorem dL_law_1493 : decode cL_law 1493 = .ok (.aload_n 2, 1) := by decide +kernel
theorem dL_law_1494 : decode cL_law 1494 = .ok (.aload_n 0, 1) := by decide +kernel
theorem dL_law_1495 : decode cL_law 1495 = .ok (.iload 4, 2) := by decide +kernel
theorem dL_law_1497 : decode cL_law 1497 = .ok (.iconst 1, 1) := by decide +kernel
theorem dL_law_1498 : decode cL_law 1498 = .ok (.iadd, 1) := by decide +kernel
theorem dL_law_1499 : decode cL_law 1499 = .ok (.iaload, 1) := by decide +kernel
theorem dL_law_1500 : decode cL_law 1500 = .ok (.i2l, 1) := by decide +kernel
theorem dL_law_1501 : decode cL_law 1501 = .ok (.bipush 32, 2) := by decide +kernel
theorem dL_law_1503 : decode cL_law 1503 = .ok (.lshl, 1) := by decide +kernel
theorem dL_law_1504 : decode cL_law 1504 = .ok (.aload_n 0, 1) := by decide +kernel
theorem dL_law_1505 : decode cL_law 1505 = .ok (.iload 4, 2) := by decide +kernel
theorem dL_law_1507 : decode cL_law 1507 = .ok (.iconst 2, 1) := by decide +kernel
theorem dL_law_1508 : decode cL_law 1508 = .ok (.iadd, 1) := by decide +kernel
theorem dL_law_1509 : decode cL_law 1509 = .ok (.iaload, 1) := by decide +kernel
theorem dL_law_1510 : decode cL_law 1510 = .ok (.i2l, 1) := by decide +kernel
theorem dL_law_1511 : decode cL_law 1511 = .ok (.ldc2_w 137, 3) := by decide +kernel
theorem dL_law_1514 : decode cL_law 1514 = .ok (.land, 1) := by decide +kernel
theorem dL_law_1515 : decode cL_law 1515 = .ok (.lor, 1) := by decide +kernel
theorem dL_law_1516 : decode cL_law 1516 = .ok (.aload_n 0, 1) := by decide +kernel
theorem dL_law_1517 : decode cL_law 1517 = .ok (.iload 4, 2) := by decide +kernel
theorem dL_law_1519 : decode cL_law 1519 = .ok (.iconst 3, 1) := by decide +kernel
theorem dL_law_1520 : decode cL_law 1520 = .ok (.iadd, 1) := by decide +kernel
theorem dL_law_1521 : decode cL_law 1521 = .ok (.iaload, 1) := by decide +kernel
theorem dL_law_1522 : decode cL_law 1522 = .ok (.i2l, 1) := by decide +kernel
theorem dL_law_1523 : decode cL_law 1523 = .ok (.bipush 32, 2) := by decide +kernel
theorem dL_law_1525 : decode cL_law 1525 = .ok (.lshl, 1) := by decide +kernel
theorem dL_law_1526 : decode cL_law 1526 = .ok (.aload_n 0, 1) := by decide +kernel
theorem dL_law_1527 : decode cL_law 1527 = .ok (.iload 4, 2) := by decide +kernel
theorem dL_law_1529 : decode cL_law 1529 = .ok (.iconst 4, 1) := by decide +kernel
theorem dL_law_1530 : decode cL_law 1530 = .ok (.iadd, 1) := by decide +kernel
theorem dL_law_1531 : decode cL_law 1531 = .ok (.iaload, 1) := by decide +kernel
theorem dL_law_1532 : decode cL_law 1532 = .ok (.i2l, 1) := by decide +kernel
theorem dL_law_1533 : decode cL_law 1533 = .ok (.ldc2_w 137, 3) := by decide +kernel
theorem dL_law_1536 : decode cL_law 1536 = .ok (.land, 1) := by decide +kernel
theorem dL_law_1537 : decode cL_law 1537 = .ok (.lor, 1) := by decide +kernel
theorem dL_law_1538 : decode cL_law 1538 = .ok (.aload_n 0, 1) := by decide +kernel
theorem dL_law_1539 : decode cL_law 1539 = .ok (.iload 4, 2) := by decide +kernel
theorem dL_law_1541 : decode cL_law 1541 = .ok (.iconst 5, 1) := by decide +kernel
theorem dL_law_1542 : decode cL_law 1542 = .ok (.iadd, 1) := by decide +kernel
theorem dL_law_1543 : decode cL_law 1543 = .ok (.iaload, 1) := by decide +kernel
theorem dL_law_1544 : decode cL_law 1544 = .ok (.aload_n 0, 1) := by decide +kernel
theorem dL_law_1545 : decode cL_law 1545 = .ok (.iload 4, 2) := by decide +kernel
theorem dL_law_1547 : decode cL_law 1547 = .ok (.bipush 6, 2) := by decide +kernel
theorem dL_law_1549 : decode cL_law 1549 = .ok (.iadd, 1) := by decide +kernel
theorem dL_law_1550 : decode cL_law 1550 = .ok (.iaload, 1) := by decide +kernel
theorem dL_law_1551 : decode cL_law 1551 = .ok (.invokevirtual 198, 3) := by decide +kernel
theorem dL_law_1554 : decode cL_law 1554 = .ok (.lstore 6, 2) := by decide +kernel
theorem dL_law_1556 : decode cL_law 1556 = .ok (.aload_n 2, 1) := by decide +kernel
theorem dL_law_1557 : decode cL_law 1557 = .ok (.invokevirtual 130, 3) := by decide +kernel
theorem dL_law_1560 : decode cL_law 1560 = .ok (.iload 5, 2) := by decide +kernel
theorem dL_law_1562 : decode cL_law 1562 = .ok (.if_icmp .eq 5, 3) := by decide +kernel
theorem dL_law_1567 : decode cL_law 1567 = .ok (.iload 5, 2) := by decide +kernel
theorem dL_law_1569 : decode cL_law 1569 = .ok (.ifCond .ne 14, 3) := by decide +kernel
theorem dL_law_1572 : decode cL_law 1572 = .ok (.aload_n 3, 1) := by decide +kernel
theorem dL_law_1573 : decode cL_law 1573 = .ok (.iconst 0, 1) := by decide +kernel
theorem dL_law_1574 : decode cL_law 1574 = .ok (.laload, 1) := by decide +kernel
theorem dL_law_1575 : decode cL_law 1575 = .ok (.lload 6, 2) := by decide +kernel
theorem dL_law_1577 : decode cL_law 1577 = .ok (.lcmp, 1) := by decide +kernel
theorem dL_law_1578 : decode cL_law 1578 = .ok (.ifCond .eq 5, 3) := by decide +kernel
theorem dL_law_1583 : decode cL_law 1583 = .ok (.goto 1456, 3) := by decide +kernel
theorem dL_law_1586 : decode cL_law 1586 = .ok (.aload_n 1, 1) := by decide +kernel
theorem dL_law_1587 : decode cL_law 1587 = .ok (.aload_n 0, 1) := by decide +kernel
theorem dL_law_1588 : decode cL_law 1588 = .ok (.iload 4, 2) := by decide +kernel
theorem dL_law_1590 : decode cL_law 1590 = .ok (.iconst 1, 1) := by decide +kernel
theorem dL_law_1591 : decode cL_law 1591 = .ok (.iadd, 1) := by decide +kernel
theorem dL_law_1592 : decode cL_law 1592 = .ok (.iaload, 1) := by decide +kernel
theorem dL_law_1593 : decode cL_law 1593 = .ok (.i2l, 1) := by decide +kernel
theorem dL_law_1594 : decode cL_law 1594 = .ok (.bipush 32, 2) := by decide +kernel
theorem dL_law_1596 : decode cL_law 1596 = .ok (.lshl, 1) := by decide +kernel
theorem dL_law_1597 : decode cL_law 1597 = .ok (.aload_n 0, 1) := by decide +kernel
theorem dL_law_1598 : decode cL_law 1598 = .ok (.iload 4, 2) := by decide +kernel
theorem dL_law_1600 : decode cL_law 1600 = .ok (.iconst 2, 1) := by decide +kernel
theorem dL_law_1601 : decode cL_law 1601 = .ok (.iadd, 1) := by decide +kernel
theorem dL_law_1602 : decode cL_law 1602 = .ok (.iaload, 1) := by decide +kernel
theorem dL_law_1603 : decode cL_law 1603 = .ok (.i2l, 1) := by decide +kernel
theorem dL_law_1604 : decode cL_law 1604 = .ok (.ldc2_w 137, 3) := by decide +kernel
theorem dL_law_1607 : decode cL_law 1607 = .ok (.land, 1) := by decide +kernel
theorem dL_law_1608 : decode cL_law 1608 = .ok (.lor, 1) := by decide +kernel
theorem dL_law_1609 : decode cL_law 1609 = .ok (.aload_n 0, 1) := by decide +kernel
theorem dL_law_1610 : decode cL_law 1610 = .ok (.iload 4, 2) := by decide +kernel
theorem dL_law_1612 : decode cL_law 1612 = .ok (.iconst 3, 1) := by decide +kernel
theorem dL_law_1613 : decode cL_law 1613 = .ok (.iadd, 1) := by decide +kernel
theorem dL_law_1614 : decode cL_law 1614 = .ok (.iaload, 1) := by decide +kernel
theorem dL_law_1615 : decode cL_law 1615 = .ok (.i2l, 1) := by decide +kernel
theorem dL_law_1616 : decode cL_law 1616 = .ok (.bipush 32, 2) := by decide +kernel
theorem dL_law_1618 : decode cL_law 1618 = .ok (.lshl, 1) := by decide +kernel
theorem dL_law_1619 : decode cL_law 1619 = .ok (.aload_n 0, 1) := by decide +kernel
theorem dL_law_1620 : decode cL_law 1620 = .ok (.iload 4, 2) := by decide +kernel
theorem dL_law_1622 : decode cL_law 1622 = .ok (.iconst 4, 1) := by decide +kernel
theorem dL_law_1623 : decode cL_law 1623 = .ok (.iadd, 1) := by decide +kernel
theorem dL_law_1624 : decode cL_law 1624 = .ok (.iaload, 1) := by decide +kernel
theorem dL_law_1625 : decode cL_law 1625 = .ok (.i2l, 1) := by decide +kernel
theorem dL_law_1626 : decode cL_law 1626 = .ok (.ldc2_w 137, 3) := by decide +kernel
theorem dL_law_1629 : decode cL_law 1629 = .ok (.land, 1) := by decide +kernel
theorem dL_law_1630 : decode cL_law 1630 = .ok (.lor, 1) := by decide +kernel
theorem dL_law_1631 : decode cL_law 1631 = .ok (.aload_n 0, 1) := by decide +kernel
theorem dL_law_1632 : decode cL_law 1632 = .ok (.iload 4, 2) := by decide +kernel
theorem dL_law_1634 : decode cL_law 1634 = .ok (.iconst 5, 1) := by decide +kernel
theorem dL_law_1635 : decode cL_law 1635 = .ok (.iadd, 1) := by decide +kernel
theorem dL_law_1636 : decode cL_law 1636 = .ok (.iaload, 1) := by decide +kernel
theorem dL_law_1637 : decode cL_law 1637 = .ok (.aload_n 0, 1) := by decide +kernel
theorem dL_law_1638 : decode cL_law 1638 = .ok (.iload 4, 2) := by decide +kernel
theorem dL_law_1640 : decode cL_law 1640 = .ok (.bipush 6, 2) := by decide +kernel
theorem dL_law_1642 : decode cL_law 1642 = .ok (.iadd, 1) := by decide +kernel
theorem dL_law_1643 : decode cL_law 1643 = .ok (.iaload, 1) := by decide +kernel
theorem dL_law_1644 : decode cL_law 1644 = .ok (.i2l, 1) := by decide +kernel
theorem dL_law_1645 : decode cL_law 1645 = .ok (.bipush 32, 2) := by decide +kernel
theorem dL_law_1647 : decode cL_law 1647 = .ok (.lshl, 1) := by decide +kernel
theorem dL_law_1648 : decode cL_law 1648 = .ok (.aload_n 0, 1) := by decide +kernel
theorem dL_law_1649 : decode cL_law 1649 = .ok (.iload 4, 2) := by decide +kernel
theorem dL_law_1651 : decode cL_law 1651 = .ok (.bipush 7, 2) := by decide +kernel
theorem dL_law_1653 : decode cL_law 1653 = .ok (.iadd, 1) := by decide +kernel
theorem dL_law_1654 : decode cL_law 1654 = .ok (.iaload, 1) := by decide +kernel
theorem dL_law_1655 : decode cL_law 1655 = .ok (.i2l, 1) := by decide +kernel
theorem dL_law_1656 : decode cL_law 1656 = .ok (.ldc2_w 137, 3) := by decide +kernel
theorem dL_law_1659 : decode cL_law 1659 = .ok (.land, 1) := by decide +kernel
theorem dL_law_1660 : decode cL_law 1660 = .ok (.lor, 1) := by decide +kernel
theorem dL_law_1661 : decode cL_law 1661 = .ok (.aload_n 3, 1) := by decide +kernel
theorem dL_law_1662 : decode cL_law 1662 = .ok (.invokestatic 199, 3) := by decide +kernel
theorem dL_law_1665 : decode cL_law 1665 = .ok (.istore 5, 2) := by decide +kernel
theorem dL_law_1667 : decode cL_law 1667 = .ok (.aload_n 2, 1) := by decide +kernel
theorem dL_law_1668 : decode cL_law 1668 = .ok (.aload_n 0, 1) := by decide +kernel
theorem dL_law_1669 : decode cL_law 1669 = .ok (.iload 4, 2) := by decide +kernel
theorem dL_law_1671 : decode cL_law 1671 = .ok (.iconst 1, 1) := by decide +kernel
theorem dL_law_1672 : decode cL_law 1672 = .ok (.iadd, 1) := by decide +kernel
theorem dL_law_1673 : decode cL_law 1673 = .ok (.iaload, 1) := by decide +kernel
theorem dL_law_1674 : decode cL_law 1674 = .ok (.i2l, 1) := by decide +kernel
theorem dL_law_1675 : decode cL_law 1675 = .ok (.bipush 32, 2) := by decide +kernel
theorem dL_law_1677 : decode cL_law 1677 = .ok (.lshl, 1) := by decide +kernel
theorem dL_law_1678 : decode cL_law 1678 = .ok (.aload_n 0, 1) := by decide +kernel
theorem dL_law_1679 : decode cL_law 1679 = .ok (.iload 4, 2) := by decide +kernel
theorem dL_law_1681 : decode cL_law 1681 = .ok (.iconst 2, 1) := by decide +kernel
theorem dL_law_1682 : decode cL_law 1682 = .ok (.iadd, 1) := by decide +kernel
theorem dL_law_1683 : decode cL_law 1683 = .ok (.iaload, 1) := by decide +kernel
theorem dL_law_1684 : decode cL_law 1684 = .ok (.i2l, 1) := by decide +kernel
theorem dL_law_1685 : decode cL_law 1685 = .ok (.ldc2_w 137, 3) := by decide +kernel
theorem dL_law_1688 : decode cL_law 1688 = .ok (.land, 1) := by decide +kernel
theorem dL_law_1689 : decode cL_law 1689 = .ok (.lor, 1) := by decide +kernel
theorem dL_law_1690 : decode cL_law 1690 = .ok (.aload_n 0, 1) := by decide +kernel
theorem dL_law_1691 : decode cL_law 1691 = .ok (.iload 4, 2) := by decide +kernel
theorem dL_law_1693 : decode cL_law 1693 = .ok (.iconst 3, 1) := by decide +kernel
theorem dL_law_1694 : decode cL_law 1694 = .ok (.iadd, 1) := by decide +kernel
theorem dL_law_1695 : decode cL_law 1695 = .ok (.iaload, 1) := by decide +kernel
theorem dL_law_1696 : decode cL_law 1696 = .ok (.i2l, 1) := by decide +kernel
theorem dL_law_1697 : decode cL_law 1697 = .ok (.bipush 32, 2) := by decide +kernel
theorem dL_law_1699 : decode cL_law 1699 = .ok (.lshl, 1) := by decide +kernel
theorem dL_law_1700 : decode cL_law 1700 = .ok (.aload_n 0, 1) := by decide +kernel
theorem dL_law_1701 : decode cL_law 1701 = .ok (.iload 4, 2) := by decide +kernel
theorem dL_law_1703 : decode cL_law 1703 = .ok (.iconst 4, 1) := by decide +kernel
theorem dL_law_1704 : decode cL_law 1704 = .ok (.iadd, 1) := by decide +kernel
theorem dL_law_1705 : decode cL_law 1705 = .ok (.iaload, 1) := by decide +kernel
theorem dL_law_1706 : decode cL_law 1706 = .ok (.i2l, 1) := by decide +kernel
theorem dL_law_1707 : decode cL_law 1707 = .ok (.ldc2_w 137, 3) := by decide +kernel
theorem dL_law_1710 : decode cL_law 1710 = .ok (.land, 1) := by decide +kernel
theorem dL_law_1711 : decode cL_law 1711 = .ok (.lor, 1) := by decide +kernel
theorem dL_law_1712 : decode cL_law 1712 = .ok (.aload_n 0, 1) := by decide +kernel
theorem dL_law_1713 : decode cL_law 1713 = .ok (.iload 4, 2) := by decide +kernel
theorem dL_law_1715 : decode cL_law 1715 = .ok (.iconst 5, 1) := by decide +kernel
theorem dL_law_1716 : decode cL_law 1716 = .ok (.iadd, 1) := by decide +kernel
theorem dL_law_1717 : decode cL_law 1717 = .ok (.iaload, 1) := by decide +kernel
theorem dL_law_1718 : decode cL_law 1718 = .ok (.aload_n 0, 1) := by decide +kernel
theorem dL_law_1719 : decode cL_law 1719 = .ok (.iload 4, 2) := by decide +kernel
theorem dL_law_1721 : decode cL_law 1721 = .ok (.bipush 6, 2) := by decide +kernel
theorem dL_law_1723 : decode cL_law 1723 = .ok (.iadd, 1) := by decide +kernel
theorem dL_law_1724 : decode cL_law 1724 = .ok (.iaload, 1) := by decide +kernel
theorem dL_law_1725 : decode cL_law 1725 = .ok (.i2l, 1) := by decide +kernel
theorem dL_law_1726 : decode cL_law 1726 = .ok (.bipush 32, 2) := by decide +kernel
theorem dL_law_1728 : decode cL_law 1728 = .ok (.lshl, 1) := by decide +kernel
theorem dL_law_1729 : decode cL_law 1729 = .ok (.aload_n 0, 1) := by decide +kernel
theorem dL_law_1730 : decode cL_law 1730 = .ok (.iload 4, 2) := by decide +kernel
theorem dL_law_1732 : decode cL_law 1732 = .ok (.bipush 7, 2) := by decide +kernel
theorem dL_law_1734 : decode cL_law 1734 = .ok (.iadd, 1) := by decide +kernel
theorem dL_law_1735 : decode cL_law 1735 = .ok (.iaload, 1) := by decide +kernel
theorem dL_law_1736 : decode cL_law 1736 = .ok (.i2l, 1) := by decide +kernel
theorem dL_law_1737 : decode cL_law 1737 = .ok (.ldc2_w 137, 3) := by decide +kernel
theorem dL_law_1740 : decode cL_law 1740 = .ok (.land, 1) := by decide +kernel
theorem dL_law_1741 : decode cL_law 1741 = .ok (.lor, 1) := by decide +kernel
theorem dL_law_1742 : decode cL_law 1742 = .ok (.invokevirtual 202, 3) := by decide +kernel
theorem dL_law_1745 : decode cL_law 1745 = .ok (.istore 6, 2) := by decide +kernel
theorem dL_law_1747 : decode cL_law 1747 = .ok (.aload_n 2, 1) := by decide +kernel
theorem dL_law_1748 : decode cL_law 1748 = .ok (.invokevirtual 130, 3) := by decide +kernel
theorem dL_law_1751 : decode cL_law 1751 = .ok (.iload 5, 2) := by decide +kernel
theorem dL_law_1753 : decode cL_law 1753 = .ok (.if_icmp .eq 5, 3) := by decide +kernel
theorem dL_law_1758 : decode cL_law 1758 = .ok (.iload 5, 2) := by decide +kernel
theorem dL_law_1760 : decode cL_law 1760 = .ok (.ifCond .ne 15, 3) := by decide +kernel
theorem dL_law_1763 : decode cL_law 1763 = .ok (.aload_n 3, 1) := by decide +kernel
theorem dL_law_1764 : decode cL_law 1764 = .ok (.iconst 0, 1) := by decide +kernel
theorem dL_law_1765 : decode cL_law 1765 = .ok (.laload, 1) := by decide +kernel
theorem dL_law_1766 : decode cL_law 1766 = .ok (.iload 6, 2) := by decide +kernel
theorem dL_law_1768 : decode cL_law 1768 = .ok (.i2l, 1) := by decide +kernel
theorem dL_law_1769 : decode cL_law 1769 = .ok (.lcmp, 1) := by decide +kernel
theorem dL_law_1770 : decode cL_law 1770 = .ok (.ifCond .eq 5, 3) := by decide +kernel
theorem dL_law_1775 : decode cL_law 1775 = .ok (.goto 1264, 3) := by decide +kernel
theorem dL_law_1778 : decode cL_law 1778 = .ok (.aload_n 1, 1) := by decide +kernel
theorem dL_law_1779 : decode cL_law 1779 = .ok (.aload_n 0, 1) := by decide +kernel
theorem dL_law_1780 : decode cL_law 1780 = .ok (.iload 4, 2) := by decide +kernel
theorem dL_law_1782 : decode cL_law 1782 = .ok (.iconst 1, 1) := by decide +kernel
theorem dL_law_1783 : decode cL_law 1783 = .ok (.iadd, 1) := by decide +kernel
theorem dL_law_1784 : decode cL_law 1784 = .ok (.iaload, 1) := by decide +kernel
theorem dL_law_1785 : decode cL_law 1785 = .ok (.i2l, 1) := by decide +kernel
theorem dL_law_1786 : decode cL_law 1786 = .ok (.bipush 32, 2) := by decide +kernel
theorem dL_law_1788 : decode cL_law 1788 = .ok (.lshl, 1) := by decide +kernel
theorem dL_law_1789 : decode cL_law 1789 = .ok (.aload_n 0, 1) := by decide +kernel
theorem dL_law_1790 : decode cL_law 1790 = .ok (.iload 4, 2) := by decide +kernel
theorem dL_law_1792 : decode cL_law 1792 = .ok (.iconst 2, 1) := by decide +kernel
theorem dL_law_1793 : decode cL_law 1793 = .ok (.iadd, 1) := by decide +kernel
theorem dL_law_1794 : decode cL_law 1794 = .ok (.iaload, 1) := by decide +kernel
theorem dL_law_1795 : decode cL_law 1795 = .ok (.i2l, 1) := by decide +kernel
theorem dL_law_1796 : decode cL_law 1796 = .ok (.ldc2_w 137, 3) := by decide +kernel
theorem dL_law_1799 : decode cL_law 1799 = .ok (.land, 1) := by decide +kernel
theorem dL_law_1800 : decode cL_law 1800 = .ok (.lor, 1) := by decide +kernel
theorem dL_law_1801 : decode cL_law 1801 = .ok (.aload_n 0, 1) := by decide +kernel
theorem dL_law_1802 : decode cL_law 1802 = .ok (.iload 4, 2) := by decide +kernel
theorem dL_law_1804 : decode cL_law 1804 = .ok (.iconst 3, 1) := by decide +kernel
theorem dL_law_1805 : decode cL_law 1805 = .ok (.iadd, 1) := by decide +kernel
theorem dL_law_1806 : decode cL_law 1806 = .ok (.iaload, 1) := by decide +kernel
theorem dL_law_1807 : decode cL_law 1807 = .ok (.aload_n 0, 1) := by decide +kernel
theorem dL_law_1808 : decode cL_law 1808 = .ok (.iload 4, 2) := by decide +kernel
theorem dL_law_1810 : decode cL_law 1810 = .ok (.iconst 4, 1) := by decide +kernel
theorem dL_law_1811 : decode cL_law 1811 = .ok (.iadd, 1) := by decide +kernel
theorem dL_law_1812 : decode cL_law 1812 = .ok (.iaload, 1) := by decide +kernel
theorem dL_law_1813 : decode cL_law 1813 = .ok (.aload_n 3, 1) := by decide +kernel
theorem dL_law_1814 : decode cL_law 1814 = .ok (.invokestatic 203, 3) := by decide +kernel
theorem dL_law_1817 : decode cL_law 1817 = .ok (.istore 5, 2) := by decide +kernel
theorem dL_law_1819 : decode cL_law 1819 = .ok (.aload_n 2, 1) := by decide +kernel
theorem dL_law_1820 : decode cL_law 1820 = .ok (.aload_n 0, 1) := by decide +kernel
theorem dL_law_1821 : decode cL_law 1821 = .ok (.iload 4, 2) := by decide +kernel
theorem dL_law_1823 : decode cL_law 1823 = .ok (.iconst 1, 1) := by decide +kernel
theorem dL_law_1824 : decode cL_law 1824 = .ok (.iadd, 1) := by decide +kernel
theorem dL_law_1825 : decode cL_law 1825 = .ok (.iaload, 1) := by decide +kernel
theorem dL_law_1826 : decode cL_law 1826 = .ok (.i2l, 1) := by decide +kernel
theorem dL_law_1827 : decode cL_law 1827 = .ok (.bipush 32, 2) := by decide +kernel
theorem dL_law_1829 : decode cL_law 1829 = .ok (.lshl, 1) := by decide +kernel
theorem dL_law_1830 : decode cL_law 1830 = .ok (.aload_n 0, 1) := by decide +kernel
theorem dL_law_1831 : decode cL_law 1831 = .ok (.iload 4, 2) := by decide +kernel
theorem dL_law_1833 : decode cL_law 1833 = .ok (.iconst 2, 1) := by decide +kernel
theorem dL_law_1834 : decode cL_law 1834 = .ok (.iadd, 1) := by decide +kernel
theorem dL_law_1835 : decode cL_law 1835 = .ok (.iaload, 1) := by decide +kernel
theorem dL_law_1836 : decode cL_law 1836 = .ok (.i2l, 1) := by decide +kernel
theorem dL_law_1837 : decode cL_law 1837 = .ok (.ldc2_w 137, 3) := by decide +kernel
theorem dL_law_1840 : decode cL_law 1840 = .ok (.land, 1) := by decide +kernel
theorem dL_law_1841 : decode cL_law 1841 = .ok (.lor, 1) := by decide +kernel
theorem dL_law_1842 : decode cL_law 1842 = .ok (.aload_n 0, 1) := by decide +kernel
theorem dL_law_1843 : decode cL_law 1843 = .ok (.iload 4, 2) := by decide +kernel
theorem dL_law_1845 : decode cL_law 1845 = .ok (.iconst 3, 1) := by decide +kernel
theorem dL_law_1846 : decode cL_law 1846 = .ok (.iadd, 1) := by decide +kernel
theorem dL_law_1847 : decode cL_law 1847 = .ok (.iaload, 1) := by decide +kernel
theorem dL_law_1848 : decode cL_law 1848 = .ok (.aload_n 0, 1) := by decide +kernel
theorem dL_law_1849 : decode cL_law 1849 = .ok (.iload 4, 2) := by decide +kernel
theorem dL_law_1851 : decode cL_law 1851 = .ok (.iconst 4, 1) := by decide +kernel
theorem dL_law_1852 : decode cL_law 1852 = .ok (.iadd, 1) := by decide +kernel
theorem dL_law_1853 : decode cL_law 1853 = .ok (.iaload, 1) := by decide +kernel
theorem dL_law_1854 : decode cL_law 1854 = .ok (.invokevirtual 205, 3) := by decide +kernel
theorem dL_law_1857 : decode cL_law 1857 = .ok (.lstore 6, 2) := by decide +kernel
theorem dL_law_1859 : decode cL_law 1859 = .ok (.aload_n 2, 1) := by decide +kernel
theorem dL_law_1860 : decode cL_law 1860 = .ok (.invokevirtual 130, 3) := by decide +kernel
theorem dL_law_1863 : decode cL_law 1863 = .ok (.iload 5, 2) := by decide +kernel
theorem dL_law_1865 : decode cL_law 1865 = .ok (.if_icmp .eq 5, 3) := by decide +kernel
theorem dL_law_1870 : decode cL_law 1870 = .ok (.iload 5, 2) := by decide +kernel
theorem dL_law_1872 : decode cL_law 1872 = .ok (.ifCond .ne 14, 3) := by decide +kernel
theorem dL_law_1875 : decode cL_law 1875 = .ok (.aload_n 3, 1) := by decide +kernel
theorem dL_law_1876 : decode cL_law 1876 = .ok (.iconst 0, 1) := by decide +kernel
theorem dL_law_1877 : decode cL_law 1877 = .ok (.laload, 1) := by decide +kernel
theorem dL_law_1878 : decode cL_law 1878 = .ok (.lload 6, 2) := by decide +kernel
theorem dL_law_1880 : decode cL_law 1880 = .ok (.lcmp, 1) := by decide +kernel
theorem dL_law_1881 : decode cL_law 1881 = .ok (.ifCond .eq 5, 3) := by decide +kernel
theorem dL_law_1886 : decode cL_law 1886 = .ok (.goto 1153, 3) := by decide +kernel
theorem dL_law_1889 : decode cL_law 1889 = .ok (.aload_n 1, 1) := by decide +kernel
theorem dL_law_1890 : decode cL_law 1890 = .ok (.aload_n 0, 1) := by decide +kernel
theorem dL_law_1891 : decode cL_law 1891 = .ok (.iload 4, 2) := by decide +kernel
theorem dL_law_1893 : decode cL_law 1893 = .ok (.iconst 1, 1) := by decide +kernel
theorem dL_law_1894 : decode cL_law 1894 = .ok (.iadd, 1) := by decide +kernel
theorem dL_law_1895 : decode cL_law 1895 = .ok (.iaload, 1) := by decide +kernel
theorem dL_law_1896 : decode cL_law 1896 = .ok (.aload_n 3, 1) := by decide +kernel
theorem dL_law_1897 : decode cL_law 1897 = .ok (.invokestatic 206, 3) := by decide +kernel
theorem dL_law_1900 : decode cL_law 1900 = .ok (.istore 5, 2) := by decide +kernel
theorem dL_law_1902 : decode cL_law 1902 = .ok (.aload_n 2, 1) := by decide +kernel
theorem dL_law_1903 : decode cL_law 1903 = .ok (.aload_n 0, 1) := by decide +kernel
theorem dL_law_1904 : decode cL_law 1904 = .ok (.iload 4, 2) := by decide +kernel
theorem dL_law_1906 : decode cL_law 1906 = .ok (.iconst 1, 1) := by decide +kernel
theorem dL_law_1907 : decode cL_law 1907 = .ok (.iadd, 1) := by decide +kernel
theorem dL_law_1908 : decode cL_law 1908 = .ok (.iaload, 1) := by decide +kernel
theorem dL_law_1909 : decode cL_law 1909 = .ok (.invokevirtual 208, 3) := by decide +kernel
theorem dL_law_1912 : decode cL_law 1912 = .ok (.istore 6, 2) := by decide +kernel
theorem dL_law_1914 : decode cL_law 1914 = .ok (.aload_n 2, 1) := by decide +kernel
theorem dL_law_1915 : decode cL_law 1915 = .ok (.invokevirtual 130, 3) := by decide +kernel
theorem dL_law_1918 : decode cL_law 1918 = .ok (.iload 5, 2) := by decide +kernel
theorem dL_law_1920 : decode cL_law 1920 = .ok (.if_icmp .eq 5, 3) := by decide +kernel
theorem dL_law_1925 : decode cL_law 1925 = .ok (.iload 5, 2) := by decide +kernel
theorem dL_law_1927 : decode cL_law 1927 = .ok (.ifCond .ne 15, 3) := by decide +kernel
theorem dL_law_1930 : decode cL_law 1930 = .ok (.aload_n 3, 1) := by decide +kernel
theorem dL_law_1931 : decode cL_law 1931 = .ok (.iconst 0, 1) := by decide +kernel
theorem dL_law_1932 : decode cL_law 1932 = .ok (.laload, 1) := by decide +kernel
theorem dL_law_1933 : decode cL_law 1933 = .ok (.iload 6, 2) := by decide +kernel
theorem dL_law_1935 : decode cL_law 1935 = .ok (.i2l, 1) := by decide +kernel
theorem dL_law_1936 : decode cL_law 1936 = .ok (.lcmp, 1) := by decide +kernel
theorem dL_law_1937 : decode cL_law 1937 = .ok (.ifCond .eq 5, 3) := by decide +kernel
theorem dL_law_1942 : decode cL_law 1942 = .ok (.goto 1097, 3) := by decide +kernel
theorem dL_law_1945 : decode cL_law 1945 = .ok (.aload_n 1, 1) := by decide +kernel
theorem dL_law_1946 : decode cL_law 1946 = .ok (.invokevirtual 209, 3) := by decide +kernel
theorem dL_law_1949 : decode cL_law 1949 = .ok (.aload_n 2, 1) := by decide +kernel
theorem dL_law_1950 : decode cL_law 1950 = .ok (.invokevirtual 212, 3) := by decide +kernel
theorem dL_law_1953 : decode cL_law 1953 = .ok (.if_icmp .eq 1086, 3) := by decide +kernel
theorem dL_law_1958 : decode cL_law 1958 = .ok (.aload_n 1, 1) := by decide +kernel
theorem dL_law_1959 : decode cL_law 1959 = .ok (.aload_n 0, 1) := by decide +kernel
theorem dL_law_1960 : decode cL_law 1960 = .ok (.iload 4, 2) := by decide +kernel
theorem dL_law_1962 : decode cL_law 1962 = .ok (.iconst 1, 1) := by decide +kernel
theorem dL_law_1963 : decode cL_law 1963 = .ok (.iadd, 1) := by decide +kernel
theorem dL_law_1964 : decode cL_law 1964 = .ok (.iaload, 1) := by decide +kernel
theorem dL_law_1965 : decode cL_law 1965 = .ok (.aload_n 0, 1) := by decide +kernel
theorem dL_law_1966 : decode cL_law 1966 = .ok (.iload 4, 2) := by decide +kernel
theorem dL_law_1968 : decode cL_law 1968 = .ok (.iconst 2, 1) := by decide +kernel
theorem dL_law_1969 : decode cL_law 1969 = .ok (.iadd, 1) := by decide +kernel
theorem dL_law_1970 : decode cL_law 1970 = .ok (.iaload, 1) := by decide +kernel
theorem dL_law_1971 : decode cL_law 1971 = .ok (.i2l, 1) := by decide +kernel
theorem dL_law_1972 : decode cL_law 1972 = .ok (.bipush 32, 2) := by decide +kernel
theorem dL_law_1974 : decode cL_law 1974 = .ok (.lshl, 1) := by decide +kernel
theorem dL_law_1975 : decode cL_law 1975 = .ok (.aload_n 0, 1) := by decide +kernel
theorem dL_law_1976 : decode cL_law 1976 = .ok (.iload 4, 2) := by decide +kernel
theorem dL_law_1978 : decode cL_law 1978 = .ok (.iconst 3, 1) := by decide +kernel
theorem dL_law_1979 : decode cL_law 1979 = .ok (.iadd, 1) := by decide +kernel
theorem dL_law_1980 : decode cL_law 1980 = .ok (.iaload, 1) := by decide +kernel
theorem dL_law_1981 : decode cL_law 1981 = .ok (.i2l, 1) := by decide +kernel
theorem dL_law_1982 : decode cL_law 1982 = .ok (.ldc2_w 137, 3) := by decide +kernel
theorem dL_law_1985 : decode cL_law 1985 = .ok (.land, 1) := by decide +kernel
theorem dL_law_1986 : decode cL_law 1986 = .ok (.lor, 1) := by decide +kernel
theorem dL_law_1987 : decode cL_law 1987 = .ok (.aload_n 0, 1) := by decide +kernel
theorem dL_law_1988 : decode cL_law 1988 = .ok (.iload 4, 2) := by decide +kernel
theorem dL_law_1990 : decode cL_law 1990 = .ok (.iconst 4, 1) := by decide +kernel
theorem dL_law_1991 : decode cL_law 1991 = .ok (.iadd, 1) := by decide +kernel
theorem dL_law_1992 : decode cL_law 1992 = .ok (.iaload, 1) := by decide +kernel
theorem dL_law_1993 : decode cL_law 1993 = .ok (.aload_n 3, 1) := by decide +kernel
theorem dL_law_1994 : decode cL_law 1994 = .ok (.invokestatic 213, 3) := by decide +kernel
theorem dL_law_1997 : decode cL_law 1997 = .ok (.istore 5, 2) := by decide +kernel
theorem dL_law_1999 : decode cL_law 1999 = .ok (.aload_n 2, 1) := by decide +kernel
theorem dL_law_2000 : decode cL_law 2000 = .ok (.aload_n 0, 1) := by decide +kernel
theorem dL_law_2001 : decode cL_law 2001 = .ok (.iload 4, 2) := by decide +kernel
theorem dL_law_2003 : decode cL_law 2003 = .ok (.iconst 1, 1) := by decide +kernel
theorem dL_law_2004 : decode cL_law 2004 = .ok (.iadd, 1) := by decide +kernel
theorem dL_law_2005 : decode cL_law 2005 = .ok (.iaload, 1) := by decide +kernel
theorem dL_law_2006 : decode cL_law 2006 = .ok (.aload_n 0, 1) := by decide +kernel
theorem dL_law_2007 : decode cL_law 2007 = .ok (.iload 4, 2) := by decide +kernel
theorem dL_law_2009 : decode cL_law 2009 = .ok (.iconst 2, 1) := by decide +kernel
theorem dL_law_2010 : decode cL_law 2010 = .ok (.iadd, 1) := by decide +kernel
theorem dL_law_2011 : decode cL_law 2011 = .ok (.iaload, 1) := by decide +kernel
theorem dL_law_2012 : decode cL_law 2012 = .ok (.i2l, 1) := by decide +kernel
theorem dL_law_2013 : decode cL_law 2013 = .ok (.bipush 32, 2) := by decide +kernel
theorem dL_law_2015 : decode cL_law 2015 = .ok (.lshl, 1) := by decide +kernel
theorem dL_law_2016 : decode cL_law 2016 = .ok (.aload_n 0, 1) := by decide +kernel
theorem dL_law_2017 : decode cL_law 2017 = .ok (.iload 4, 2) := by decide +kernel
theorem dL_law_2019 : decode cL_law 2019 = .ok (.iconst 3, 1) := by decide +kernel
theorem dL_law_2020 : decode cL_law 2020 = .ok (.iadd, 1) := by decide +kernel
theorem dL_law_2021 : decode cL_law 2021 = .ok (.iaload, 1) := by decide +kernel
theorem dL_law_2022 : decode cL_law 2022 = .ok (.i2l, 1) := by decide +kernel
theorem dL_law_2023 : decode cL_law 2023 = .ok (.ldc2_w 137, 3) := by decide +kernel
theorem dL_law_2026 : decode cL_law 2026 = .ok (.land, 1) := by decide +kernel
theorem dL_law_2027 : decode cL_law 2027 = .ok (.lor, 1) := by decide +kernel
theorem dL_law_2028 : decode cL_law 2028 = .ok (.aload_n 0, 1) := by decide +kernel
theorem dL_law_2029 : decode cL_law 2029 = .ok (.iload 4, 2) := by decide +kernel
theorem dL_law_2031 : decode cL_law 2031 = .ok (.iconst 4, 1) := by decide +kernel
theorem dL_law_2032 : decode cL_law 2032 = .ok (.iadd, 1) := by decide +kernel
theorem dL_law_2033 : decode cL_law 2033 = .ok (.iaload, 1) := by decide +kernel
theorem dL_law_2034 : decode cL_law 2034 = .ok (.invokevirtual 216, 3) := by decide +kernel
theorem dL_law_2037 : decode cL_law 2037 = .ok (.lstore 6, 2) := by decide +kernel
theorem dL_law_2039 : decode cL_law 2039 = .ok (.aload_n 2, 1) := by decide +kernel
theorem dL_law_204 : decode cL_law 204 = .ok (.aload_n 1, 1) := by decide +kernel
theorem dL_law_2040 : decode cL_law 2040 = .ok (.invokevirtual 130, 3) := by decide +kernel
theorem dL_law_2043 : decode cL_law 2043 = .ok (.iload 5, 2) := by decide +kernel
theorem dL_law_2045 : decode cL_law 2045 = .ok (.if_icmp .eq 5, 3) := by decide +kernel
theorem dL_law_205 : decode cL_law 205 = .ok (.aload_n 0, 1) := by decide +kernel
theorem dL_law_2050 : decode cL_law 2050 = .ok (.iload 5, 2) := by decide +kernel
theorem dL_law_2052 : decode cL_law 2052 = .ok (.ifCond .ne 14, 3) := by decide +kernel
theorem dL_law_206 : decode cL_law 206 = .ok (.iload 4, 2) := by decide +kernel
theorem dL_law_2066 : decode cL_law 2066 = .ok (.goto 973, 3) := by decide +kernel
theorem dL_law_2069 : decode cL_law 2069 = .ok (.aload_n 1, 1) := by decide +kernel
theorem dL_law_2070 : decode cL_law 2070 = .ok (.aload_n 0, 1) := by decide +kernel
theorem dL_law_2071 : decode cL_law 2071 = .ok (.iload 4, 2) := by decide +kernel
theorem dL_law_2073 : decode cL_law 2073 = .ok (.iconst 1, 1) := by decide +kernel
theorem dL_law_2074 : decode cL_law 2074 = .ok (.iadd, 1) := by decide +kernel
theorem dL_law_2075 : decode cL_law 2075 = .ok (.iaload, 1) := by decide +kernel
theorem dL_law_2076 : decode cL_law 2076 = .ok (.aload_n 0, 1) := by decide +kernel
theorem dL_law_2077 : decode cL_law 2077 = .ok (.iload 4, 2) := by decide +kernel
theorem dL_law_2079 : decode cL_law 2079 = .ok (.iconst 2, 1) := by decide +kernel
theorem dL_law_208 : decode cL_law 208 = .ok (.iconst 1, 1) := by decide +kernel
theorem dL_law_2080 : decode cL_law 2080 = .ok (.iadd, 1) := by decide +kernel
theorem dL_law_2081 : decode cL_law 2081 = .ok (.iaload, 1) := by decide +kernel
theorem dL_law_2082 : decode cL_law 2082 = .ok (.i2l, 1) := by decide +kernel
theorem dL_law_2083 : decode cL_law 2083 = .ok (.bipush 32, 2) := by decide +kernel
theorem dL_law_2085 : decode cL_law 2085 = .ok (.lshl, 1) := by decide +kernel
theorem dL_law_2086 : decode cL_law 2086 = .ok (.aload_n 0, 1) := by decide +kernel
theorem dL_law_2087 : decode cL_law 2087 = .ok (.iload 4, 2) := by decide +kernel
theorem dL_law_2089 : decode cL_law 2089 = .ok (.iconst 3, 1) := by decide +kernel
theorem dL_law_209 : decode cL_law 209 = .ok (.iadd, 1) := by decide +kernel
theorem dL_law_2090 : decode cL_law 2090 = .ok (.iadd, 1) := by decide +kernel
theorem dL_law_2091 : decode cL_law 2091 = .ok (.iaload, 1) := by decide +kernel
theorem dL_law_2092 : decode cL_law 2092 = .ok (.i2l, 1) := by decide +kernel
theorem dL_law_2093 : decode cL_law 2093 = .ok (.ldc2_w 137, 3) := by decide +kernel
theorem dL_law_2096 : decode cL_law 2096 = .ok (.land, 1) := by decide +kernel
theorem dL_law_2097 : decode cL_law 2097 = .ok (.lor, 1) := by decide +kernel
theorem dL_law_2098 : decode cL_law 2098 = .ok (.aload_n 0, 1) := by decide +kernel
theorem dL_law_2099 : decode cL_law 2099 = .ok (.iload 4, 2) := by decide +kernel
theorem dL_law_210 : decode cL_law 210 = .ok (.iaload, 1) := by decide +kernel
theorem dL_law_2101 : decode cL_law 2101 = .ok (.iconst 4, 1) := by decide +kernel
theorem dL_law_2102 : decode cL_law 2102 = .ok (.iadd, 1) := by decide +kernel
theorem dL_law_2103 : decode cL_law 2103 = .ok (.iaload, 1) := by decide +kernel
theorem dL_law_2104 : decode cL_law 2104 = .ok (.aload_n 3, 1) := by decide +kernel
theorem dL_law_2105 : decode cL_law 2105 = .ok (.invokestatic 217, 3) := by decide +kernel
theorem dL_law_2108 : decode cL_law 2108 = .ok (.istore 5, 2) := by decide +kernel
theorem dL_law_211 : decode cL_law 211 = .ok (.aload_n 3, 1) := by decide +kernel
theorem dL_law_2110 : decode cL_law 2110 = .ok (.aload_n 2, 1) := by decide +kernel
theorem dL_law_2111 : decode cL_law 2111 = .ok (.aload_n 0, 1) := by decide +kernel
theorem dL_law_2112 : decode cL_law 2112 = .ok (.iload 4, 2) := by decide +kernel
theorem dL_law_2114 : decode cL_law 2114 = .ok (.iconst 1, 1) := by decide +kernel
theorem dL_law_2115 : decode cL_law 2115 = .ok (.iadd, 1) := by decide +kernel
theorem dL_law_2116 : decode cL_law 2116 = .ok (.iaload, 1) := by decide +kernel
theorem dL_law_2117 : decode cL_law 2117 = .ok (.aload_n 0, 1) := by decide +kernel
theorem dL_law_2118 : decode cL_law 2118 = .ok (.iload 4, 2) := by decide +kernel
theorem dL_law_212 : decode cL_law 212 = .ok (.invokestatic 124, 3) := by decide +kernel
theorem dL_law_2120 : decode cL_law 2120 = .ok (.iconst 2, 1) := by decide +kernel
theorem dL_law_2121 : decode cL_law 2121 = .ok (.iadd, 1) := by decide +kernel
theorem dL_law_2122 : decode cL_law 2122 = .ok (.iaload, 1) := by decide +kernel
theorem dL_law_2123 : decode cL_law 2123 = .ok (.i2l, 1) := by decide +kernel
theorem dL_law_2124 : decode cL_law 2124 = .ok (.bipush 32, 2) := by decide +kernel
theorem dL_law_2126 : decode cL_law 2126 = .ok (.lshl, 1) := by decide +kernel
theorem dL_law_2127 : decode cL_law 2127 = .ok (.aload_n 0, 1) := by decide +kernel
theorem dL_law_2128 : decode cL_law 2128 = .ok (.iload 4, 2) := by decide +kernel
theorem dL_law_2130 : decode cL_law 2130 = .ok (.iconst 3, 1) := by decide +kernel
theorem dL_law_2131 : decode cL_law 2131 = .ok (.iadd, 1) := by decide +kernel
theorem dL_law_2132 : decode cL_law 2132 = .ok (.iaload, 1) := by decide +kernel
theorem dL_law_2133 : decode cL_law 2133 = .ok (.i2l, 1) := by decide +kernel
theorem dL_law_2134 : decode cL_law 2134 = .ok (.ldc2_w 137, 3) := by decide +kernel
theorem dL_law_2137 : decode cL_law 2137 = .ok (.land, 1) := by decide +kernel
theorem dL_law_2138 : decode cL_law 2138 = .ok (.lor, 1) := by decide +kernel
theorem dL_law_2139 : decode cL_law 2139 = .ok (.aload_n 0, 1) := by decide +kernel
theorem dL_law_2140 : decode cL_law 2140 = .ok (.iload 4, 2) := by decide +kernel
theorem dL_law_2142 : decode cL_law 2142 = .ok (.iconst 4, 1) := by decide +kernel
theorem dL_law_2143 : decode cL_law 2143 = .ok (.iadd, 1) := by decide +kernel
theorem dL_law_2144 : decode cL_law 2144 = .ok (.iaload, 1) := by decide +kernel
theorem dL_law_2145 : decode cL_law 2145 = .ok (.invokevirtual 219, 3) := by decide +kernel
theorem dL_law_2148 : decode cL_law 2148 = .ok (.lstore 6, 2) := by decide +kernel
theorem dL_law_215 : decode cL_law 215 = .ok (.istore 5, 2) := by decide +kernel
theorem dL_law_2150 : decode cL_law 2150 = .ok (.aload_n 2, 1) := by decide +kernel
theorem dL_law_2151 : decode cL_law 2151 = .ok (.invokevirtual 130, 3) := by decide +kernel
theorem dL_law_2154 : decode cL_law 2154 = .ok (.iload 5, 2) := by decide +kernel
theorem dL_law_2156 : decode cL_law 2156 = .ok (.if_icmp .eq 5, 3) := by decide +kernel
theorem dL_law_2161 : decode cL_law 2161 = .ok (.iload 5, 2) := by decide +kernel
theorem dL_law_2163 : decode cL_law 2163 = .ok (.ifCond .ne 14, 3) := by decide +kernel
theorem dL_law_217 : decode cL_law 217 = .ok (.aload_n 2, 1) := by decide +kernel
theorem dL_law_2177 : decode cL_law 2177 = .ok (.goto 862, 3) := by decide +kernel
theorem dL_law_218 : decode cL_law 218 = .ok (.aload_n 0, 1) := by decide +kernel
theorem dL_law_2180 : decode cL_law 2180 = .ok (.aload_n 1, 1) := by decide +kernel
theorem dL_law_2181 : decode cL_law 2181 = .ok (.aload_n 0, 1) := by decide +kernel
theorem dL_law_2182 : decode cL_law 2182 = .ok (.iload 4, 2) := by decide +kernel
theorem dL_law_2184 : decode cL_law 2184 = .ok (.iconst 1, 1) := by decide +kernel
theorem dL_law_2185 : decode cL_law 2185 = .ok (.iadd, 1) := by decide +kernel
theorem dL_law_2186 : decode cL_law 2186 = .ok (.iaload, 1) := by decide +kernel
theorem dL_law_2187 : decode cL_law 2187 = .ok (.aload_n 0, 1) := by decide +kernel
theorem dL_law_2188 : decode cL_law 2188 = .ok (.iload 4, 2) := by decide +kernel
theorem dL_law_219 : decode cL_law 219 = .ok (.iload 4, 2) := by decide +kernel
theorem dL_law_2190 : decode cL_law 2190 = .ok (.iconst 2, 1) := by decide +kernel
theorem dL_law_2191 : decode cL_law 2191 = .ok (.iadd, 1) := by decide +kernel
theorem dL_law_2192 : decode cL_law 2192 = .ok (.iaload, 1) := by decide +kernel
theorem dL_law_2193 : decode cL_law 2193 = .ok (.i2l, 1) := by decide +kernel
theorem dL_law_2194 : decode cL_law 2194 = .ok (.bipush 32, 2) := by decide +kernel
theorem dL_law_2196 : decode cL_law 2196 = .ok (.lshl, 1) := by decide +kernel
theorem dL_law_2197 : decode cL_law 2197 = .ok (.aload_n 0, 1) := by decide +kernel
theorem dL_law_2198 : decode cL_law 2198 = .ok (.iload 4, 2) := by decide +kernel
theorem dL_law_2200 : decode cL_law 2200 = .ok (.iconst 3, 1) := by decide +kernel
theorem dL_law_2201 : decode cL_law 2201 = .ok (.iadd, 1) := by decide +kernel
theorem dL_law_2202 : decode cL_law 2202 = .ok (.iaload, 1) := by decide +kernel
theorem dL_law_2203 : decode cL_law 2203 = .ok (.i2l, 1) := by decide +kernel
theorem dL_law_2204 : decode cL_law 2204 = .ok (.ldc2_w 137, 3) := by decide +kernel
theorem dL_law_2207 : decode cL_law 2207 = .ok (.land, 1) := by decide +kernel
theorem dL_law_2208 : decode cL_law 2208 = .ok (.lor, 1) := by decide +kernel
theorem dL_law_2209 : decode cL_law 2209 = .ok (.aload_n 0, 1) := by decide +kernel
theorem dL_law_221 : decode cL_law 221 = .ok (.iconst 1, 1) := by decide +kernel
theorem dL_law_2210 : decode cL_law 2210 = .ok (.iload 4, 2) := by decide +kernel
theorem dL_law_2212 : decode cL_law 2212 = .ok (.iconst 4, 1) := by decide +kernel
theorem dL_law_2213 : decode cL_law 2213 = .ok (.iadd, 1) := by decide +kernel
theorem dL_law_2214 : decode cL_law 2214 = .ok (.iaload, 1) := by decide +kernel
theorem dL_law_2215 : decode cL_law 2215 = .ok (.aload_n 3, 1) := by decide +kernel
theorem dL_law_2216 : decode cL_law 2216 = .ok (.invokestatic 220, 3) := by decide +kernel
theorem dL_law_2219 : decode cL_law 2219 = .ok (.istore 5, 2) := by decide +kernel
theorem dL_law_222 : decode cL_law 222 = .ok (.iadd, 1) := by decide +kernel
theorem dL_law_2221 : decode cL_law 2221 = .ok (.aload_n 2, 1) := by decide +kernel
theorem dL_law_2222 : decode cL_law 2222 = .ok (.aload_n 0, 1) := by decide +kernel
theorem dL_law_2223 : decode cL_law 2223 = .ok (.iload 4, 2) := by decide +kernel
theorem dL_law_2225 : decode cL_law 2225 = .ok (.iconst 1, 1) := by decide +kernel
theorem dL_law_2226 : decode cL_law 2226 = .ok (.iadd, 1) := by decide +kernel
theorem dL_law_2227 : decode cL_law 2227 = .ok (.iaload, 1) := by decide +kernel
theorem dL_law_2228 : decode cL_law 2228 = .ok (.aload_n 0, 1) := by decide +kernel
theorem dL_law_2229 : decode cL_law 2229 = .ok (.iload 4, 2) := by decide +kernel
theorem dL_law_223 : decode cL_law 223 = .ok (.iaload, 1) := by decide +kernel
theorem dL_law_2231 : decode cL_law 2231 = .ok (.iconst 2, 1) := by decide +kernel
theorem dL_law_2232 : decode cL_law 2232 = .ok (.iadd, 1) := by decide +kernel
theorem dL_law_2233 : decode cL_law 2233 = .ok (.iaload, 1) := by decide +kernel
theorem dL_law_2234 : decode cL_law 2234 = .ok (.i2l, 1) := by decide +kernel
theorem dL_law_2235 : decode cL_law 2235 = .ok (.bipush 32, 2) := by decide +kernel
theorem dL_law_2237 : decode cL_law 2237 = .ok (.lshl, 1) := by decide +kernel
theorem dL_law_2238 : decode cL_law 2238 = .ok (.aload_n 0, 1) := by decide +kernel
theorem dL_law_2239 : decode cL_law 2239 = .ok (.iload 4, 2) := by decide +kernel
theorem dL_law_224 : decode cL_law 224 = .ok (.invokevirtual 129, 3) := by decide +kernel
theorem dL_law_2241 : decode cL_law 2241 = .ok (.iconst 3, 1) := by decide +kernel
theorem dL_law_2242 : decode cL_law 2242 = .ok (.iadd, 1) := by decide +kernel
theorem dL_law_2243 : decode cL_law 2243 = .ok (.iaload, 1) := by decide +kernel
theorem dL_law_2244 : decode cL_law 2244 = .ok (.i2l, 1) := by decide +kernel
theorem dL_law_2245 : decode cL_law 2245 = .ok (.ldc2_w 137, 3) := by decide +kernel
theorem dL_law_2248 : decode cL_law 2248 = .ok (.land, 1) := by decide +kernel
theorem dL_law_2249 : decode cL_law 2249 = .ok (.lor, 1) := by decide +kernel
theorem dL_law_2250 : decode cL_law 2250 = .ok (.aload_n 0, 1) := by decide +kernel
theorem dL_law_2251 : decode cL_law 2251 = .ok (.iload 4, 2) := by decide +kernel
theorem dL_law_2253 : decode cL_law 2253 = .ok (.iconst 4, 1) := by decide +kernel
theorem dL_law_2254 : decode cL_law 2254 = .ok (.iadd, 1) := by decide +kernel
theorem dL_law_2255 : decode cL_law 2255 = .ok (.iaload, 1) := by decide +kernel
theorem dL_law_2256 : decode cL_law 2256 = .ok (.invokevirtual 222, 3) := by decide +kernel
theorem dL_law_2259 : decode cL_law 2259 = .ok (.lstore 6, 2) := by decide +kernel
theorem dL_law_2261 : decode cL_law 2261 = .ok (.aload_n 2, 1) := by decide +kernel
theorem dL_law_2262 : decode cL_law 2262 = .ok (.invokevirtual 130, 3) := by decide +kernel
theorem dL_law_2265 : decode cL_law 2265 = .ok (.iload 5, 2) := by decide +kernel
theorem dL_law_2267 : decode cL_law 2267 = .ok (.if_icmp .eq 5, 3) := by decide +kernel
theorem dL_law_227 : decode cL_law 227 = .ok (.istore 6, 2) := by decide +kernel
theorem dL_law_2272 : decode cL_law 2272 = .ok (.iload 5, 2) := by decide +kernel
theorem dL_law_2274 : decode cL_law 2274 = .ok (.ifCond .ne 14, 3) := by decide +kernel
theorem dL_law_2288 : decode cL_law 2288 = .ok (.goto 751, 3) := by decide +kernel
theorem dL_law_229 : decode cL_law 229 = .ok (.aload_n 2, 1) := by decide +kernel
theorem dL_law_2291 : decode cL_law 2291 = .ok (.aload_n 1, 1) := by decide +kernel
theorem dL_law_2292 : decode cL_law 2292 = .ok (.aload_n 0, 1) := by decide +kernel
theorem dL_law_2293 : decode cL_law 2293 = .ok (.iload 4, 2) := by decide +kernel
theorem dL_law_2295 : decode cL_law 2295 = .ok (.iconst 1, 1) := by decide +kernel
theorem dL_law_2296 : decode cL_law 2296 = .ok (.iadd, 1) := by decide +kernel
theorem dL_law_2297 : decode cL_law 2297 = .ok (.iaload, 1) := by decide +kernel
theorem dL_law_2298 : decode cL_law 2298 = .ok (.aload_n 0, 1) := by decide +kernel
theorem dL_law_2299 : decode cL_law 2299 = .ok (.iload 4, 2) := by decide +kernel
theorem dL_law_230 : decode cL_law 230 = .ok (.invokevirtual 130, 3) := by decide +kernel
theorem dL_law_2301 : decode cL_law 2301 = .ok (.iconst 2, 1) := by decide +kernel
theorem dL_law_2302 : decode cL_law 2302 = .ok (.iadd, 1) := by decide +kernel
theorem dL_law_2303 : decode cL_law 2303 = .ok (.iaload, 1) := by decide +kernel
theorem dL_law_2304 : decode cL_law 2304 = .ok (.aload_n 0, 1) := by decide +kernel
theorem dL_law_2305 : decode cL_law 2305 = .ok (.iload 4, 2) := by decide +kernel
theorem dL_law_2307 : decode cL_law 2307 = .ok (.iconst 3, 1) := by decide +kernel
theorem dL_law_2308 : decode cL_law 2308 = .ok (.iadd, 1) := by decide +kernel
theorem dL_law_2309 : decode cL_law 2309 = .ok (.iaload, 1) := by decide +kernel
theorem dL_law_2310 : decode cL_law 2310 = .ok (.i2l, 1) := by decide +kernel
theorem dL_law_2311 : decode cL_law 2311 = .ok (.bipush 32, 2) := by decide +kernel
theorem dL_law_2313 : decode cL_law 2313 = .ok (.lshl, 1) := by decide +kernel
theorem dL_law_2314 : decode cL_law 2314 = .ok (.aload_n 0, 1) := by decide +kernel
theorem dL_law_2315 : decode cL_law 2315 = .ok (.iload 4, 2) := by decide +kernel
theorem dL_law_2317 : decode cL_law 2317 = .ok (.iconst 4, 1) := by decide +kernel
theorem dL_law_2318 : decode cL_law 2318 = .ok (.iadd, 1) := by decide +kernel
theorem dL_law_2319 : decode cL_law 2319 = .ok (.iaload, 1) := by decide +kernel
theorem dL_law_2320 : decode cL_law 2320 = .ok (.i2l, 1) := by decide +kernel
theorem dL_law_2321 : decode cL_law 2321 = .ok (.ldc2_w 137, 3) := by decide +kernel
theorem dL_law_2324 : decode cL_law 2324 = .ok (.land, 1) := by decide +kernel
theorem dL_law_2325 : decode cL_law 2325 = .ok (.lor, 1) := by decide +kernel
theorem dL_law_2326 : decode cL_law 2326 = .ok (.aload_n 0, 1) := by decide +kernel
theorem dL_law_2327 : decode cL_law 2327 = .ok (.iload 4, 2) := by decide +kernel
theorem dL_law_2329 : decode cL_law 2329 = .ok (.iconst 5, 1) := by decide +kernel
theorem dL_law_233 : decode cL_law 233 = .ok (.iload 5, 2) := by decide +kernel
theorem dL_law_2330 : decode cL_law 2330 = .ok (.iadd, 1) := by decide +kernel
theorem dL_law_2331 : decode cL_law 2331 = .ok (.iaload, 1) := by decide +kernel
theorem dL_law_2332 : decode cL_law 2332 = .ok (.aload_n 0, 1) := by decide +kernel
theorem dL_law_2333 : decode cL_law 2333 = .ok (.iload 4, 2) := by decide +kernel
theorem dL_law_2335 : decode cL_law 2335 = .ok (.bipush 6, 2) := by decide +kernel
theorem dL_law_2337 : decode cL_law 2337 = .ok (.iadd, 1) := by decide +kernel
theorem dL_law_2338 : decode cL_law 2338 = .ok (.iaload, 1) := by decide +kernel
theorem dL_law_2339 : decode cL_law 2339 = .ok (.ifCond .eq 7, 3) := by decide +kernel
theorem dL_law_2342 : decode cL_law 2342 = .ok (.iconst 1, 1) := by decide +kernel
theorem dL_law_2343 : decode cL_law 2343 = .ok (.goto 4, 3) := by decide +kernel
theorem dL_law_2346 : decode cL_law 2346 = .ok (.iconst 0, 1) := by decide +kernel
theorem dL_law_2347 : decode cL_law 2347 = .ok (.aload_n 3, 1) := by decide +kernel
theorem dL_law_2348 : decode cL_law 2348 = .ok (.invokestatic 223, 3) := by decide +kernel
theorem dL_law_235 : decode cL_law 235 = .ok (.if_icmp .eq 5, 3) := by decide +kernel
theorem dL_law_2351 : decode cL_law 2351 = .ok (.istore 5, 2) := by decide +kernel
theorem dL_law_2353 : decode cL_law 2353 = .ok (.aload_n 2, 1) := by decide +kernel
theorem dL_law_2354 : decode cL_law 2354 = .ok (.aload_n 0, 1) := by decide +kernel
theorem dL_law_2355 : decode cL_law 2355 = .ok (.iload 4, 2) := by decide +kernel
theorem dL_law_2357 : decode cL_law 2357 = .ok (.iconst 1, 1) := by decide +kernel
theorem dL_law_2358 : decode cL_law 2358 = .ok (.iadd, 1) := by decide +kernel
theorem dL_law_2359 : decode cL_law 2359 = .ok (.iaload, 1) := by decide +kernel
theorem dL_law_2360 : decode cL_law 2360 = .ok (.aload_n 0, 1) := by decide +kernel
theorem dL_law_2361 : decode cL_law 2361 = .ok (.iload 4, 2) := by decide +kernel
theorem dL_law_2363 : decode cL_law 2363 = .ok (.iconst 2, 1) := by decide +kernel
theorem dL_law_2364 : decode cL_law 2364 = .ok (.iadd, 1) := by decide +kernel
theorem dL_law_2365 : decode cL_law 2365 = .ok (.iaload, 1) := by decide +kernel
theorem dL_law_2366 : decode cL_law 2366 = .ok (.aload_n 0, 1) := by decide +kernel
theorem dL_law_2367 : decode cL_law 2367 = .ok (.iload 4, 2) := by decide +kernel
theorem dL_law_2369 : decode cL_law 2369 = .ok (.iconst 3, 1) := by decide +kernel
theorem dL_law_2370 : decode cL_law 2370 = .ok (.iadd, 1) := by decide +kernel
theorem dL_law_2371 : decode cL_law 2371 = .ok (.iaload, 1) := by decide +kernel
theorem dL_law_2372 : decode cL_law 2372 = .ok (.i2l, 1) := by decide +kernel
theorem dL_law_2373 : decode cL_law 2373 = .ok (.bipush 32, 2) := by decide +kernel
theorem dL_law_2375 : decode cL_law 2375 = .ok (.lshl, 1) := by decide +kernel
theorem dL_law_2376 : decode cL_law 2376 = .ok (.aload_n 0, 1) := by decide +kernel
theorem dL_law_2377 : decode cL_law 2377 = .ok (.iload 4, 2) := by decide +kernel
theorem dL_law_2379 : decode cL_law 2379 = .ok (.iconst 4, 1) := by decide +kernel
theorem dL_law_2380 : decode cL_law 2380 = .ok (.iadd, 1) := by decide +kernel
theorem dL_law_2381 : decode cL_law 2381 = .ok (.iaload, 1) := by decide +kernel
theorem dL_law_2382 : decode cL_law 2382 = .ok (.i2l, 1) := by decide +kernel
theorem dL_law_2383 : decode cL_law 2383 = .ok (.ldc2_w 137, 3) := by decide +kernel
theorem dL_law_2386 : decode cL_law 2386 = .ok (.land, 1) := by decide +kernel
theorem dL_law_2387 : decode cL_law 2387 = .ok (.lor, 1) := by decide +kernel
theorem dL_law_2388 : decode cL_law 2388 = .ok (.aload_n 0, 1) := by decide +kernel
theorem dL_law_2389 : decode cL_law 2389 = .ok (.iload 4, 2) := by decide +kernel
theorem dL_law_2391 : decode cL_law 2391 = .ok (.iconst 5, 1) := by decide +kernel
theorem dL_law_2392 : decode cL_law 2392 = .ok (.iadd, 1) := by decide +kernel
theorem dL_law_2393 : decode cL_law 2393 = .ok (.iaload, 1) := by decide +kernel
theorem dL_law_2394 : decode cL_law 2394 = .ok (.aload_n 0, 1) := by decide +kernel
theorem dL_law_2395 : decode cL_law 2395 = .ok (.iload 4, 2) := by decide +kernel
theorem dL_law_2397 : decode cL_law 2397 = .ok (.bipush 6, 2) := by decide +kernel
theorem dL_law_2399 : decode cL_law 2399 = .ok (.iadd, 1) := by decide +kernel
theorem dL_law_240 : decode cL_law 240 = .ok (.iload 5, 2) := by decide +kernel
theorem dL_law_2400 : decode cL_law 2400 = .ok (.iaload, 1) := by decide +kernel
theorem dL_law_2401 : decode cL_law 2401 = .ok (.ifCond .eq 7, 3) := by decide +kernel
theorem dL_law_2404 : decode cL_law 2404 = .ok (.iconst 1, 1) := by decide +kernel
theorem dL_law_2405 : decode cL_law 2405 = .ok (.goto 4, 3) := by decide +kernel
theorem dL_law_2408 : decode cL_law 2408 = .ok (.iconst 0, 1) := by decide +kernel
theorem dL_law_2409 : decode cL_law 2409 = .ok (.invokevirtual 226, 3) := by decide +kernel
theorem dL_law_2412 : decode cL_law 2412 = .ok (.lstore 6, 2) := by decide +kernel
theorem dL_law_2414 : decode cL_law 2414 = .ok (.aload_n 2, 1) := by decide +kernel
theorem dL_law_2415 : decode cL_law 2415 = .ok (.invokevirtual 130, 3) := by decide +kernel
theorem dL_law_2418 : decode cL_law 2418 = .ok (.iload 5, 2) := by decide +kernel
theorem dL_law_242 : decode cL_law 242 = .ok (.ifCond .ne 15, 3) := by decide +kernel
theorem dL_law_2420 : decode cL_law 2420 = .ok (.if_icmp .eq 5, 3) := by decide +kernel
theorem dL_law_2425 : decode cL_law 2425 = .ok (.iload 5, 2) := by decide +kernel
theorem dL_law_2427 : decode cL_law 2427 = .ok (.ifCond .ne 14, 3) := by decide +kernel
theorem dL_law_2441 : decode cL_law 2441 = .ok (.goto 598, 3) := by decide +kernel
theorem dL_law_2444 : decode cL_law 2444 = .ok (.aload_n 1, 1) := by decide +kernel
theorem dL_law_2445 : decode cL_law 2445 = .ok (.aload_n 0, 1) := by decide +kernel
theorem dL_law_2446 : decode cL_law 2446 = .ok (.iload 4, 2) := by decide +kernel
theorem dL_law_2448 : decode cL_law 2448 = .ok (.iconst 1, 1) := by decide +kernel
theorem dL_law_2449 : decode cL_law 2449 = .ok (.iadd, 1) := by decide +kernel
theorem dL_law_245 : decode cL_law 245 = .ok (.aload_n 3, 1) := by decide +kernel
theorem dL_law_2450 : decode cL_law 2450 = .ok (.iaload, 1) := by decide +kernel
theorem dL_law_2451 : decode cL_law 2451 = .ok (.aload_n 3, 1) := by decide +kernel
theorem dL_law_2452 : decode cL_law 2452 = .ok (.invokestatic 227, 3) := by decide +kernel
theorem dL_law_2455 : decode cL_law 2455 = .ok (.istore 5, 2) := by decide +kernel
theorem dL_law_2457 : decode cL_law 2457 = .ok (.aload_n 2, 1) := by decide +kernel
theorem dL_law_2458 : decode cL_law 2458 = .ok (.aload_n 0, 1) := by decide +kernel
theorem dL_law_2459 : decode cL_law 2459 = .ok (.iload 4, 2) := by decide +kernel
theorem dL_law_246 : decode cL_law 246 = .ok (.iconst 0, 1) := by decide +kernel
theorem dL_law_2461 : decode cL_law 2461 = .ok (.iconst 1, 1) := by decide +kernel
theorem dL_law_2462 : decode cL_law 2462 = .ok (.iadd, 1) := by decide +kernel
theorem dL_law_2463 : decode cL_law 2463 = .ok (.iaload, 1) := by decide +kernel
theorem dL_law_2464 : decode cL_law 2464 = .ok (.invokevirtual 229, 3) := by decide +kernel
theorem dL_law_2467 : decode cL_law 2467 = .ok (.istore 6, 2) := by decide +kernel
theorem dL_law_2469 : decode cL_law 2469 = .ok (.aload_n 2, 1) := by decide +kernel
theorem dL_law_247 : decode cL_law 247 = .ok (.laload, 1) := by decide +kernel
theorem dL_law_2470 : decode cL_law 2470 = .ok (.invokevirtual 130, 3) := by decide +kernel
theorem dL_law_2473 : decode cL_law 2473 = .ok (.iload 5, 2) := by decide +kernel
theorem dL_law_2475 : decode cL_law 2475 = .ok (.if_icmp .eq 5, 3) := by decide +kernel
theorem dL_law_248 : decode cL_law 248 = .ok (.iload 6, 2) := by decide +kernel
theorem dL_law_2480 : decode cL_law 2480 = .ok (.iload 5, 2) := by decide +kernel
theorem dL_law_2482 : decode cL_law 2482 = .ok (.ifCond .ne 15, 3) := by decide +kernel
theorem dL_law_2485 : decode cL_law 2485 = .ok (.aload_n 3, 1) := by decide +kernel
theorem dL_law_2486 : decode cL_law 2486 = .ok (.iconst 0, 1) := by decide +kernel
theorem dL_law_2487 : decode cL_law 2487 = .ok (.laload, 1) := by decide +kernel
theorem dL_law_2488 : decode cL_law 2488 = .ok (.iload 6, 2) := by decide +kernel
theorem dL_law_2490 : decode cL_law 2490 = .ok (.i2l, 1) := by decide +kernel
theorem dL_law_2491 : decode cL_law 2491 = .ok (.lcmp, 1) := by decide +kernel
theorem dL_law_2492 : decode cL_law 2492 = .ok (.ifCond .eq 5, 3) := by decide +kernel
theorem dL_law_2497 : decode cL_law 2497 = .ok (.goto 542, 3) := by decide +kernel
theorem dL_law_250 : decode cL_law 250 = .ok (.i2l, 1) := by decide +kernel
theorem dL_law_2500 : decode cL_law 2500 = .ok (.aload_n 1, 1) := by decide +kernel
theorem dL_law_2501 : decode cL_law 2501 = .ok (.invokevirtual 230, 3) := by decide +kernel
theorem dL_law_2504 : decode cL_law 2504 = .ok (.aload_n 2, 1) := by decide +kernel
theorem dL_law_2505 : decode cL_law 2505 = .ok (.invokevirtual 233, 3) := by decide +kernel
theorem dL_law_2508 : decode cL_law 2508 = .ok (.if_icmp .eq 531, 3) := by decide +kernel
theorem dL_law_251 : decode cL_law 251 = .ok (.lcmp, 1) := by decide +kernel
theorem dL_law_2513 : decode cL_law 2513 = .ok (.aload_n 1, 1) := by decide +kernel
theorem dL_law_2514 : decode cL_law 2514 = .ok (.aload_n 0, 1) := by decide +kernel
theorem dL_law_2515 : decode cL_law 2515 = .ok (.iload 4, 2) := by decide +kernel
theorem dL_law_2517 : decode cL_law 2517 = .ok (.iconst 1, 1) := by decide +kernel
theorem dL_law_2518 : decode cL_law 2518 = .ok (.iadd, 1) := by decide +kernel
theorem dL_law_2519 : decode cL_law 2519 = .ok (.iaload, 1) := by decide +kernel
theorem dL_law_252 : decode cL_law 252 = .ok (.ifCond .eq 5, 3) := by decide +kernel
theorem dL_law_2520 : decode cL_law 2520 = .ok (.i2l, 1) := by decide +kernel
theorem dL_law_2521 : decode cL_law 2521 = .ok (.bipush 32, 2) := by decide +kernel
theorem dL_law_2523 : decode cL_law 2523 = .ok (.lshl, 1) := by decide +kernel
theorem dL_law_2524 : decode cL_law 2524 = .ok (.aload_n 0, 1) := by decide +kernel
theorem dL_law_2525 : decode cL_law 2525 = .ok (.iload 4, 2) := by decide +kernel
theorem dL_law_2527 : decode cL_law 2527 = .ok (.iconst 2, 1) := by decide +kernel
theorem dL_law_2528 : decode cL_law 2528 = .ok (.iadd, 1) := by decide +kernel
theorem dL_law_2529 : decode cL_law 2529 = .ok (.iaload, 1) := by decide +kernel
theorem dL_law_2530 : decode cL_law 2530 = .ok (.i2l, 1) := by decide +kernel
theorem dL_law_2531 : decode cL_law 2531 = .ok (.ldc2_w 137, 3) := by decide +kernel
theorem dL_law_2534 : decode cL_law 2534 = .ok (.land, 1) := by decide +kernel
theorem dL_law_2535 : decode cL_law 2535 = .ok (.lor, 1) := by decide +kernel
theorem dL_law_2536 : decode cL_law 2536 = .ok (.aload_n 0, 1) := by decide +kernel
theorem dL_law_2537 : decode cL_law 2537 = .ok (.iload 4, 2) := by decide +kernel
theorem dL_law_2539 : decode cL_law 2539 = .ok (.iconst 3, 1) := by decide +kernel
theorem dL_law_2540 : decode cL_law 2540 = .ok (.iadd, 1) := by decide +kernel
theorem dL_law_2541 : decode cL_law 2541 = .ok (.iaload, 1) := by decide +kernel
theorem dL_law_2542 : decode cL_law 2542 = .ok (.aload_n 3, 1) := by decide +kernel
theorem dL_law_2543 : decode cL_law 2543 = .ok (.invokestatic 234, 3) := by decide +kernel
theorem dL_law_2546 : decode cL_law 2546 = .ok (.istore 5, 2) := by decide +kernel
theorem dL_law_2548 : decode cL_law 2548 = .ok (.aload_n 2, 1) := by decide +kernel
theorem dL_law_2549 : decode cL_law 2549 = .ok (.aload_n 0, 1) := by decide +kernel
theorem dL_law_2550 : decode cL_law 2550 = .ok (.iload 4, 2) := by decide +kernel
theorem dL_law_2552 : decode cL_law 2552 = .ok (.iconst 1, 1) := by decide +kernel
theorem dL_law_2553 : decode cL_law 2553 = .ok (.iadd, 1) := by decide +kernel
theorem dL_law_2554 : decode cL_law 2554 = .ok (.iaload, 1) := by decide +kernel
theorem dL_law_2555 : decode cL_law 2555 = .ok (.i2l, 1) := by decide +kernel
theorem dL_law_2556 : decode cL_law 2556 = .ok (.bipush 32, 2) := by decide +kernel
theorem dL_law_2558 : decode cL_law 2558 = .ok (.lshl, 1) := by decide +kernel
theorem dL_law_2559 : decode cL_law 2559 = .ok (.aload_n 0, 1) := by decide +kernel
theorem dL_law_2560 : decode cL_law 2560 = .ok (.iload 4, 2) := by decide +kernel
theorem dL_law_2562 : decode cL_law 2562 = .ok (.iconst 2, 1) := by decide +kernel
theorem dL_law_2563 : decode cL_law 2563 = .ok (.iadd, 1) := by decide +kernel
theorem dL_law_2564 : decode cL_law 2564 = .ok (.iaload, 1) := by decide +kernel
theorem dL_law_2565 : decode cL_law 2565 = .ok (.i2l, 1) := by decide +kernel
theorem dL_law_2566 : decode cL_law 2566 = .ok (.ldc2_w 137, 3) := by decide +kernel
theorem dL_law_2569 : decode cL_law 2569 = .ok (.land, 1) := by decide +kernel
theorem dL_law_257 : decode cL_law 257 = .ok (.goto 2782, 3) := by decide +kernel
theorem dL_law_2570 : decode cL_law 2570 = .ok (.lor, 1) := by decide +kernel
theorem dL_law_2571 : decode cL_law 2571 = .ok (.aload_n 0, 1) := by decide +kernel
theorem dL_law_2572 : decode cL_law 2572 = .ok (.iload 4, 2) := by decide +kernel
theorem dL_law_2574 : decode cL_law 2574 = .ok (.iconst 3, 1) := by decide +kernel
theorem dL_law_2575 : decode cL_law 2575 = .ok (.iadd, 1) := by decide +kernel
theorem dL_law_2576 : decode cL_law 2576 = .ok (.iaload, 1) := by decide +kernel
theorem dL_law_2577 : decode cL_law 2577 = .ok (.invokevirtual 237, 3) := by decide +kernel
theorem dL_law_2580 : decode cL_law 2580 = .ok (.lstore 6, 2) := by decide +kernel
theorem dL_law_2582 : decode cL_law 2582 = .ok (.aload_n 2, 1) := by decide +kernel
theorem dL_law_2583 : decode cL_law 2583 = .ok (.invokevirtual 130, 3) := by decide +kernel
theorem dL_law_2586 : decode cL_law 2586 = .ok (.iload 5, 2) := by decide +kernel
theorem dL_law_2588 : decode cL_law 2588 = .ok (.if_icmp .eq 5, 3) := by decide +kernel
theorem dL_law_2593 : decode cL_law 2593 = .ok (.iload 5, 2) := by decide +kernel
theorem dL_law_2595 : decode cL_law 2595 = .ok (.ifCond .ne 14, 3) := by decide +kernel
theorem dL_law_260 : decode cL_law 260 = .ok (.aload_n 1, 1) := by decide +kernel
theorem dL_law_2609 : decode cL_law 2609 = .ok (.goto 430, 3) := by decide +kernel
theorem dL_law_261 : decode cL_law 261 = .ok (.invokevirtual 133, 3) := by decide +kernel
theorem dL_law_2612 : decode cL_law 2612 = .ok (.aload_n 1, 1) := by decide +kernel
theorem dL_law_2613 : decode cL_law 2613 = .ok (.aload_n 0, 1) := by decide +kernel
theorem dL_law_2614 : decode cL_law 2614 = .ok (.iload 4, 2) := by decide +kernel
theorem dL_law_2616 : decode cL_law 2616 = .ok (.iconst 1, 1) := by decide +kernel
theorem dL_law_2617 : decode cL_law 2617 = .ok (.iadd, 1) := by decide +kernel
theorem dL_law_2618 : decode cL_law 2618 = .ok (.iaload, 1) := by decide +kernel
theorem dL_law_2619 : decode cL_law 2619 = .ok (.i2l, 1) := by decide +kernel
theorem dL_law_2620 : decode cL_law 2620 = .ok (.bipush 32, 2) := by decide +kernel
theorem dL_law_2622 : decode cL_law 2622 = .ok (.lshl, 1) := by decide +kernel
theorem dL_law_2623 : decode cL_law 2623 = .ok (.aload_n 0, 1) := by decide +kernel
theorem dL_law_2624 : decode cL_law 2624 = .ok (.iload 4, 2) := by decide +kernel
theorem dL_law_2626 : decode cL_law 2626 = .ok (.iconst 2, 1) := by decide +kernel
theorem dL_law_2627 : decode cL_law 2627 = .ok (.iadd, 1) := by decide +kernel
theorem dL_law_2628 : decode cL_law 2628 = .ok (.iaload, 1) := by decide +kernel
theorem dL_law_2629 : decode cL_law 2629 = .ok (.i2l, 1) := by decide +kernel
theorem dL_law_2630 : decode cL_law 2630 = .ok (.ldc2_w 137, 3) := by decide +kernel
theorem dL_law_2633 : decode cL_law 2633 = .ok (.land, 1) := by decide +kernel
theorem dL_law_2634 : decode cL_law 2634 = .ok (.lor, 1) := by decide +kernel
theorem dL_law_2635 : decode cL_law 2635 = .ok (.aload_n 0, 1) := by decide +kernel
theorem dL_law_2636 : decode cL_law 2636 = .ok (.iload 4, 2) := by decide +kernel
theorem dL_law_2638 : decode cL_law 2638 = .ok (.iconst 3, 1) := by decide +kernel
theorem dL_law_2639 : decode cL_law 2639 = .ok (.iadd, 1) := by decide +kernel
theorem dL_law_264 : decode cL_law 264 = .ok (.aload_n 2, 1) := by decide +kernel
theorem dL_law_2640 : decode cL_law 2640 = .ok (.iaload, 1) := by decide +kernel
theorem dL_law_2641 : decode cL_law 2641 = .ok (.aload_n 3, 1) := by decide +kernel
theorem dL_law_2642 : decode cL_law 2642 = .ok (.invokestatic 238, 3) := by decide +kernel
theorem dL_law_2645 : decode cL_law 2645 = .ok (.istore 5, 2) := by decide +kernel
theorem dL_law_2647 : decode cL_law 2647 = .ok (.aload_n 2, 1) := by decide +kernel
theorem dL_law_2648 : decode cL_law 2648 = .ok (.aload_n 0, 1) := by decide +kernel
theorem dL_law_2649 : decode cL_law 2649 = .ok (.iload 4, 2) := by decide +kernel
theorem dL_law_265 : decode cL_law 265 = .ok (.invokevirtual 136, 3) := by decide +kernel
theorem dL_law_2651 : decode cL_law 2651 = .ok (.iconst 1, 1) := by decide +kernel
theorem dL_law_2652 : decode cL_law 2652 = .ok (.iadd, 1) := by decide +kernel
theorem dL_law_2653 : decode cL_law 2653 = .ok (.iaload, 1) := by decide +kernel
theorem dL_law_2654 : decode cL_law 2654 = .ok (.i2l, 1) := by decide +kernel
theorem dL_law_2655 : decode cL_law 2655 = .ok (.bipush 32, 2) := by decide +kernel
theorem dL_law_2657 : decode cL_law 2657 = .ok (.lshl, 1) := by decide +kernel
theorem dL_law_2658 : decode cL_law 2658 = .ok (.aload_n 0, 1) := by decide +kernel
theorem dL_law_2659 : decode cL_law 2659 = .ok (.iload 4, 2) := by decide +kernel
theorem dL_law_2661 : decode cL_law 2661 = .ok (.iconst 2, 1) := by decide +kernel
theorem dL_law_2662 : decode cL_law 2662 = .ok (.iadd, 1) := by decide +kernel
theorem dL_law_2663 : decode cL_law 2663 = .ok (.iaload, 1) := by decide +kernel
theorem dL_law_2664 : decode cL_law 2664 = .ok (.i2l, 1) := by decide +kernel
theorem dL_law_2665 : decode cL_law 2665 = .ok (.ldc2_w 137, 3) := by decide +kernel
theorem dL_law_2668 : decode cL_law 2668 = .ok (.land, 1) := by decide +kernel
theorem dL_law_2669 : decode cL_law 2669 = .ok (.lor, 1) := by decide +kernel
theorem dL_law_2670 : decode cL_law 2670 = .ok (.aload_n 0, 1) := by decide +kernel
theorem dL_law_2671 : decode cL_law 2671 = .ok (.iload 4, 2) := by decide +kernel
theorem dL_law_2673 : decode cL_law 2673 = .ok (.iconst 3, 1) := by decide +kernel
theorem dL_law_2674 : decode cL_law 2674 = .ok (.iadd, 1) := by decide +kernel
theorem dL_law_2675 : decode cL_law 2675 = .ok (.iaload, 1) := by decide +kernel
theorem dL_law_2676 : decode cL_law 2676 = .ok (.invokevirtual 240, 3) := by decide +kernel
theorem dL_law_2679 : decode cL_law 2679 = .ok (.istore 6, 2) := by decide +kernel
theorem dL_law_268 : decode cL_law 268 = .ok (.if_icmp .eq 2771, 3) := by decide +kernel
theorem dL_law_2681 : decode cL_law 2681 = .ok (.aload_n 2, 1) := by decide +kernel
theorem dL_law_2682 : decode cL_law 2682 = .ok (.invokevirtual 130, 3) := by decide +kernel
theorem dL_law_2685 : decode cL_law 2685 = .ok (.iload 5, 2) := by decide +kernel
theorem dL_law_2687 : decode cL_law 2687 = .ok (.if_icmp .eq 5, 3) := by decide +kernel
theorem dL_law_2692 : decode cL_law 2692 = .ok (.iload 5, 2) := by decide +kernel
theorem dL_law_2694 : decode cL_law 2694 = .ok (.ifCond .ne 15, 3) := by decide +kernel
theorem dL_law_2697 : decode cL_law 2697 = .ok (.aload_n 3, 1) := by decide +kernel
theorem dL_law_2698 : decode cL_law 2698 = .ok (.iconst 0, 1) := by decide +kernel
theorem dL_law_2699 : decode cL_law 2699 = .ok (.laload, 1) := by decide +kernel
theorem dL_law_2700 : decode cL_law 2700 = .ok (.iload 6, 2) := by decide +kernel
theorem dL_law_2702 : decode cL_law 2702 = .ok (.i2l, 1) := by decide +kernel
theorem dL_law_2703 : decode cL_law 2703 = .ok (.lcmp, 1) := by decide +kernel
theorem dL_law_2704 : decode cL_law 2704 = .ok (.ifCond .eq 5, 3) := by decide +kernel
theorem dL_law_2709 : decode cL_law 2709 = .ok (.goto 330, 3) := by decide +kernel
theorem dL_law_2712 : decode cL_law 2712 = .ok (.aload_n 1, 1) := by decide +kernel
theorem dL_law_2713 : decode cL_law 2713 = .ok (.invokevirtual 241, 3) := by decide +kernel
theorem dL_law_2716 : decode cL_law 2716 = .ok (.aload_n 2, 1) := by decide +kernel
theorem dL_law_2717 : decode cL_law 2717 = .ok (.invokevirtual 244, 3) := by decide +kernel
theorem dL_law_2720 : decode cL_law 2720 = .ok (.if_icmp .eq 319, 3) := by decide +kernel
theorem dL_law_2725 : decode cL_law 2725 = .ok (.aload_n 1, 1) := by decide +kernel
theorem dL_law_2726 : decode cL_law 2726 = .ok (.aload_n 0, 1) := by decide +kernel
theorem dL_law_2727 : decode cL_law 2727 = .ok (.iload 4, 2) := by decide +kernel
theorem dL_law_2729 : decode cL_law 2729 = .ok (.iconst 1, 1) := by decide +kernel
theorem dL_law_273 : decode cL_law 273 = .ok (.aload_n 1, 1) := by decide +kernel
theorem dL_law_2730 : decode cL_law 2730 = .ok (.iadd, 1) := by decide +kernel
theorem dL_law_2731 : decode cL_law 2731 = .ok (.iaload, 1) := by decide +kernel
theorem dL_law_2732 : decode cL_law 2732 = .ok (.i2l, 1) := by decide +kernel
theorem dL_law_2733 : decode cL_law 2733 = .ok (.bipush 32, 2) := by decide +kernel
theorem dL_law_2735 : decode cL_law 2735 = .ok (.lshl, 1) := by decide +kernel
theorem dL_law_2736 : decode cL_law 2736 = .ok (.aload_n 0, 1) := by decide +kernel
theorem dL_law_2737 : decode cL_law 2737 = .ok (.iload 4, 2) := by decide +kernel
theorem dL_law_2739 : decode cL_law 2739 = .ok (.iconst 2, 1) := by decide +kernel
theorem dL_law_274 : decode cL_law 274 = .ok (.aload_n 0, 1) := by decide +kernel
theorem dL_law_2740 : decode cL_law 2740 = .ok (.iadd, 1) := by decide +kernel
theorem dL_law_2741 : decode cL_law 2741 = .ok (.iaload, 1) := by decide +kernel
theorem dL_law_2742 : decode cL_law 2742 = .ok (.i2l, 1) := by decide +kernel
theorem dL_law_2743 : decode cL_law 2743 = .ok (.ldc2_w 137, 3) := by decide +kernel
theorem dL_law_2746 : decode cL_law 2746 = .ok (.land, 1) := by decide +kernel
theorem dL_law_2747 : decode cL_law 2747 = .ok (.lor, 1) := by decide +kernel
theorem dL_law_2748 : decode cL_law 2748 = .ok (.aload_n 3, 1) := by decide +kernel
theorem dL_law_2749 : decode cL_law 2749 = .ok (.invokestatic 245, 3) := by decide +kernel
theorem dL_law_275 : decode cL_law 275 = .ok (.iload 4, 2) := by decide +kernel
theorem dL_law_2752 : decode cL_law 2752 = .ok (.istore 5, 2) := by decide +kernel
theorem dL_law_2754 : decode cL_law 2754 = .ok (.aload_n 2, 1) := by decide +kernel
theorem dL_law_2755 : decode cL_law 2755 = .ok (.aload_n 0, 1) := by decide +kernel
theorem dL_law_2756 : decode cL_law 2756 = .ok (.iload 4, 2) := by decide +kernel
theorem dL_law_2758 : decode cL_law 2758 = .ok (.iconst 1, 1) := by decide +kernel
theorem dL_law_2759 : decode cL_law 2759 = .ok (.iadd, 1) := by decide +kernel
theorem dL_law_2760 : decode cL_law 2760 = .ok (.iaload, 1) := by decide +kernel
theorem dL_law_2761 : decode cL_law 2761 = .ok (.i2l, 1) := by decide +kernel
theorem dL_law_2762 : decode cL_law 2762 = .ok (.bipush 32, 2) := by decide +kernel
theorem dL_law_2764 : decode cL_law 2764 = .ok (.lshl, 1) := by decide +kernel
theorem dL_law_2765 : decode cL_law 2765 = .ok (.aload_n 0, 1) := by decide +kernel
theorem dL_law_2766 : decode cL_law 2766 = .ok (.iload 4, 2) := by decide +kernel
theorem dL_law_2768 : decode cL_law 2768 = .ok (.iconst 2, 1) := by decide +kernel
theorem dL_law_2769 : decode cL_law 2769 = .ok (.iadd, 1) := by decide +kernel
theorem dL_law_277 : decode cL_law 277 = .ok (.iconst 1, 1) := by decide +kernel
theorem dL_law_2770 : decode cL_law 2770 = .ok (.iaload, 1) := by decide +kernel
theorem dL_law_2771 : decode cL_law 2771 = .ok (.i2l, 1) := by decide +kernel
theorem dL_law_2772 : decode cL_law 2772 = .ok (.ldc2_w 137, 3) := by decide +kernel
theorem dL_law_2775 : decode cL_law 2775 = .ok (.land, 1) := by decide +kernel
theorem dL_law_2776 : decode cL_law 2776 = .ok (.lor, 1) := by decide +kernel
theorem dL_law_2777 : decode cL_law 2777 = .ok (.invokevirtual 248, 3) := by decide +kernel
theorem dL_law_278 : decode cL_law 278 = .ok (.iadd, 1) := by decide +kernel
theorem dL_law_2780 : decode cL_law 2780 = .ok (.lstore 6, 2) := by decide +kernel
theorem dL_law_2782 : decode cL_law 2782 = .ok (.aload_n 2, 1) := by decide +kernel
theorem dL_law_2783 : decode cL_law 2783 = .ok (.invokevirtual 130, 3) := by decide +kernel
theorem dL_law_2786 : decode cL_law 2786 = .ok (.iload 5, 2) := by decide +kernel
theorem dL_law_2788 : decode cL_law 2788 = .ok (.if_icmp .eq 5, 3) := by decide +kernel
theorem dL_law_279 : decode cL_law 279 = .ok (.iaload, 1) := by decide +kernel
theorem dL_law_2793 : decode cL_law 2793 = .ok (.iload 5, 2) := by decide +kernel
theorem dL_law_2795 : decode cL_law 2795 = .ok (.ifCond .ne 14, 3) := by decide +kernel
theorem dL_law_2798 : decode cL_law 2798 = .ok (.aload_n 3, 1) := by decide +kernel
theorem dL_law_2799 : decode cL_law 2799 = .ok (.iconst 0, 1) := by decide +kernel
theorem dL_law_280 : decode cL_law 280 = .ok (.i2l, 1) := by decide +kernel
theorem dL_law_2800 : decode cL_law 2800 = .ok (.laload, 1) := by decide +kernel
theorem dL_law_2801 : decode cL_law 2801 = .ok (.lload 6, 2) := by decide +kernel
theorem dL_law_2803 : decode cL_law 2803 = .ok (.lcmp, 1) := by decide +kernel
theorem dL_law_2804 : decode cL_law 2804 = .ok (.ifCond .eq 5, 3) := by decide +kernel
theorem dL_law_2809 : decode cL_law 2809 = .ok (.goto 230, 3) := by decide +kernel
theorem dL_law_281 : decode cL_law 281 = .ok (.bipush 32, 2) := by decide +kernel
theorem dL_law_2812 : decode cL_law 2812 = .ok (.aload_n 1, 1) := by decide +kernel
theorem dL_law_2813 : decode cL_law 2813 = .ok (.aload_n 0, 1) := by decide +kernel
theorem dL_law_2814 : decode cL_law 2814 = .ok (.iload 4, 2) := by decide +kernel
theorem dL_law_2816 : decode cL_law 2816 = .ok (.iconst 1, 1) := by decide +kernel
theorem dL_law_2817 : decode cL_law 2817 = .ok (.iadd, 1) := by decide +kernel
theorem dL_law_2818 : decode cL_law 2818 = .ok (.iaload, 1) := by decide +kernel
theorem dL_law_2819 : decode cL_law 2819 = .ok (.i2l, 1) := by decide +kernel
theorem dL_law_2820 : decode cL_law 2820 = .ok (.bipush 32, 2) := by decide +kernel
theorem dL_law_2822 : decode cL_law 2822 = .ok (.lshl, 1) := by decide +kernel
theorem dL_law_2823 : decode cL_law 2823 = .ok (.aload_n 0, 1) := by decide +kernel
theorem dL_law_2824 : decode cL_law 2824 = .ok (.iload 4, 2) := by decide +kernel
theorem dL_law_2826 : decode cL_law 2826 = .ok (.iconst 2, 1) := by decide +kernel
theorem dL_law_2827 : decode cL_law 2827 = .ok (.iadd, 1) := by decide +kernel
theorem dL_law_2828 : decode cL_law 2828 = .ok (.iaload, 1) := by decide +kernel
theorem dL_law_2829 : decode cL_law 2829 = .ok (.i2l, 1) := by decide +kernel
theorem dL_law_283 : decode cL_law 283 = .ok (.lshl, 1) := by decide +kernel
theorem dL_law_2830 : decode cL_law 2830 = .ok (.ldc2_w 137, 3) := by decide +kernel
theorem dL_law_2833 : decode cL_law 2833 = .ok (.land, 1) := by decide +kernel
theorem dL_law_2834 : decode cL_law 2834 = .ok (.lor, 1) := by decide +kernel
theorem dL_law_2835 : decode cL_law 2835 = .ok (.aload_n 3, 1) := by decide +kernel
theorem dL_law_2836 : decode cL_law 2836 = .ok (.invokestatic 249, 3) := by decide +kernel
theorem dL_law_2839 : decode cL_law 2839 = .ok (.istore 5, 2) := by decide +kernel
theorem dL_law_284 : decode cL_law 284 = .ok (.aload_n 0, 1) := by decide +kernel
theorem dL_law_2841 : decode cL_law 2841 = .ok (.aload_n 2, 1) := by decide +kernel
theorem dL_law_2842 : decode cL_law 2842 = .ok (.aload_n 0, 1) := by decide +kernel
theorem dL_law_2843 : decode cL_law 2843 = .ok (.iload 4, 2) := by decide +kernel
theorem dL_law_2845 : decode cL_law 2845 = .ok (.iconst 1, 1) := by decide +kernel
theorem dL_law_2846 : decode cL_law 2846 = .ok (.iadd, 1) := by decide +kernel
theorem dL_law_2847 : decode cL_law 2847 = .ok (.iaload, 1) := by decide +kernel
theorem dL_law_2848 : decode cL_law 2848 = .ok (.i2l, 1) := by decide +kernel
theorem dL_law_2849 : decode cL_law 2849 = .ok (.bipush 32, 2) := by decide +kernel
theorem dL_law_285 : decode cL_law 285 = .ok (.iload 4, 2) := by decide +kernel
theorem dL_law_2851 : decode cL_law 2851 = .ok (.lshl, 1) := by decide +kernel
theorem dL_law_2852 : decode cL_law 2852 = .ok (.aload_n 0, 1) := by decide +kernel
theorem dL_law_2853 : decode cL_law 2853 = .ok (.iload 4, 2) := by decide +kernel
theorem dL_law_2855 : decode cL_law 2855 = .ok (.iconst 2, 1) := by decide +kernel
theorem dL_law_2856 : decode cL_law 2856 = .ok (.iadd, 1) := by decide +kernel
theorem dL_law_2857 : decode cL_law 2857 = .ok (.iaload, 1) := by decide +kernel
theorem dL_law_2858 : decode cL_law 2858 = .ok (.i2l, 1) := by decide +kernel
theorem dL_law_2859 : decode cL_law 2859 = .ok (.ldc2_w 137, 3) := by decide +kernel
theorem dL_law_2862 : decode cL_law 2862 = .ok (.land, 1) := by decide +kernel
theorem dL_law_2863 : decode cL_law 2863 = .ok (.lor, 1) := by decide +kernel
theorem dL_law_2864 : decode cL_law 2864 = .ok (.invokevirtual 251, 3) := by decide +kernel
theorem dL_law_2867 : decode cL_law 2867 = .ok (.lstore 6, 2) := by decide +kernel
theorem dL_law_2869 : decode cL_law 2869 = .ok (.aload_n 2, 1) := by decide +kernel
theorem dL_law_287 : decode cL_law 287 = .ok (.iconst 2, 1) := by decide +kernel
theorem dL_law_2870 : decode cL_law 2870 = .ok (.invokevirtual 130, 3) := by decide +kernel
theorem dL_law_2873 : decode cL_law 2873 = .ok (.iload 5, 2) := by decide +kernel
theorem dL_law_2875 : decode cL_law 2875 = .ok (.if_icmp .eq 5, 3) := by decide +kernel
theorem dL_law_288 : decode cL_law 288 = .ok (.iadd, 1) := by decide +kernel
theorem dL_law_2880 : decode cL_law 2880 = .ok (.iload 5, 2) := by decide +kernel
theorem dL_law_2882 : decode cL_law 2882 = .ok (.ifCond .ne 14, 3) := by decide +kernel
theorem dL_law_2885 : decode cL_law 2885 = .ok (.aload_n 3, 1) := by decide +kernel
theorem dL_law_2886 : decode cL_law 2886 = .ok (.iconst 0, 1) := by decide +kernel
theorem dL_law_2887 : decode cL_law 2887 = .ok (.laload, 1) := by decide +kernel
theorem dL_law_2888 : decode cL_law 2888 = .ok (.lload 6, 2) := by decide +kernel
theorem dL_law_289 : decode cL_law 289 = .ok (.iaload, 1) := by decide +kernel
theorem dL_law_2890 : decode cL_law 2890 = .ok (.lcmp, 1) := by decide +kernel
theorem dL_law_2891 : decode cL_law 2891 = .ok (.ifCond .eq 5, 3) := by decide +kernel
theorem dL_law_2896 : decode cL_law 2896 = .ok (.goto 143, 3) := by decide +kernel
theorem dL_law_2899 : decode cL_law 2899 = .ok (.aload_n 1, 1) := by decide +kernel
theorem dL_law_290 : decode cL_law 290 = .ok (.i2l, 1) := by decide +kernel
theorem dL_law_2900 : decode cL_law 2900 = .ok (.aload_n 0, 1) := by decide +kernel
theorem dL_law_2901 : decode cL_law 2901 = .ok (.iload 4, 2) := by decide +kernel
theorem dL_law_2903 : decode cL_law 2903 = .ok (.iconst 1, 1) := by decide +kernel
theorem dL_law_2904 : decode cL_law 2904 = .ok (.iadd, 1) := by decide +kernel
theorem dL_law_2905 : decode cL_law 2905 = .ok (.iaload, 1) := by decide +kernel
theorem dL_law_2906 : decode cL_law 2906 = .ok (.aload_n 3, 1) := by decide +kernel
theorem dL_law_2907 : decode cL_law 2907 = .ok (.invokestatic 252, 3) := by decide +kernel
theorem dL_law_291 : decode cL_law 291 = .ok (.ldc2_w 137, 3) := by decide +kernel
theorem dL_law_2910 : decode cL_law 2910 = .ok (.istore 5, 2) := by decide +kernel
theorem dL_law_2912 : decode cL_law 2912 = .ok (.aload_n 2, 1) := by decide +kernel
theorem dL_law_2913 : decode cL_law 2913 = .ok (.aload_n 0, 1) := by decide +kernel
theorem dL_law_2914 : decode cL_law 2914 = .ok (.iload 4, 2) := by decide +kernel
theorem dL_law_2916 : decode cL_law 2916 = .ok (.iconst 1, 1) := by decide +kernel
theorem dL_law_2917 : decode cL_law 2917 = .ok (.iadd, 1) := by decide +kernel
theorem dL_law_2918 : decode cL_law 2918 = .ok (.iaload, 1) := by decide +kernel
theorem dL_law_2919 : decode cL_law 2919 = .ok (.invokevirtual 254, 3) := by decide +kernel
theorem dL_law_2922 : decode cL_law 2922 = .ok (.istore 6, 2) := by decide +kernel
theorem dL_law_2924 : decode cL_law 2924 = .ok (.aload_n 2, 1) := by decide +kernel
theorem dL_law_2925 : decode cL_law 2925 = .ok (.invokevirtual 130, 3) := by decide +kernel
theorem dL_law_2928 : decode cL_law 2928 = .ok (.iload 5, 2) := by decide +kernel
theorem dL_law_2930 : decode cL_law 2930 = .ok (.if_icmp .eq 5, 3) := by decide +kernel
theorem dL_law_2935 : decode cL_law 2935 = .ok (.iload 5, 2) := by decide +kernel
theorem dL_law_2937 : decode cL_law 2937 = .ok (.ifCond .ne 15, 3) := by decide +kernel
theorem dL_law_294 : decode cL_law 294 = .ok (.land, 1) := by decide +kernel
theorem dL_law_2940 : decode cL_law 2940 = .ok (.aload_n 3, 1) := by decide +kernel
theorem dL_law_2941 : decode cL_law 2941 = .ok (.iconst 0, 1) := by decide +kernel
theorem dL_law_2942 : decode cL_law 2942 = .ok (.laload, 1) := by decide +kernel
theorem dL_law_2943 : decode cL_law 2943 = .ok (.iload 6, 2) := by decide +kernel
theorem dL_law_2945 : decode cL_law 2945 = .ok (.i2l, 1) := by decide +kernel
theorem dL_law_2946 : decode cL_law 2946 = .ok (.lcmp, 1) := by decide +kernel
theorem dL_law_2947 : decode cL_law 2947 = .ok (.ifCond .eq 5, 3) := by decide +kernel
theorem dL_law_295 : decode cL_law 295 = .ok (.lor, 1) := by decide +kernel
theorem dL_law_2952 : decode cL_law 2952 = .ok (.goto 87, 3) := by decide +kernel
theorem dL_law_2955 : decode cL_law 2955 = .ok (.aload_n 1, 1) := by decide +kernel
theorem dL_law_2956 : decode cL_law 2956 = .ok (.invokevirtual 255, 3) := by decide +kernel
theorem dL_law_2959 : decode cL_law 2959 = .ok (.dstore 5, 2) := by decide +kernel
theorem dL_law_296 : decode cL_law 296 = .ok (.aload_n 0, 1) := by decide +kernel
theorem dL_law_2961 : decode cL_law 2961 = .ok (.aload_n 2, 1) := by decide +kernel
theorem dL_law_2962 : decode cL_law 2962 = .ok (.invokevirtual 259, 3) := by decide +kernel
theorem dL_law_2965 : decode cL_law 2965 = .ok (.dstore 7, 2) := by decide +kernel
theorem dL_law_2967 : decode cL_law 2967 = .ok (.dload 5, 2) := by decide +kernel
theorem dL_law_2969 : decode cL_law 2969 = .ok (.dload 7, 2) := by decide +kernel
theorem dL_law_297 : decode cL_law 297 = .ok (.iload 4, 2) := by decide +kernel
theorem dL_law_2971 : decode cL_law 2971 = .ok (.dcmp .l, 1) := by decide +kernel
theorem dL_law_2972 : decode cL_law 2972 = .ok (.ifCond .eq 21, 3) := by decide +kernel
theorem dL_law_299 : decode cL_law 299 = .ok (.iconst 3, 1) := by decide +kernel
theorem dL_law_2993 : decode cL_law 2993 = .ok (.goto 46, 3) := by decide +kernel
theorem dL_law_2996 : decode cL_law 2996 = .ok (.aload_n 1, 1) := by decide +kernel
theorem dL_law_2997 : decode cL_law 2997 = .ok (.invokevirtual 260, 3) := by decide +kernel
theorem dL_law_300 : decode cL_law 300 = .ok (.iadd, 1) := by decide +kernel
theorem dL_law_3000 : decode cL_law 3000 = .ok (.f2d, 1) := by decide +kernel
theorem dL_law_3001 : decode cL_law 3001 = .ok (.dstore 5, 2) := by decide +kernel
theorem dL_law_3003 : decode cL_law 3003 = .ok (.aload_n 2, 1) := by decide +kernel
theorem dL_law_3004 : decode cL_law 3004 = .ok (.invokevirtual 264, 3) := by decide +kernel
theorem dL_law_3007 : decode cL_law 3007 = .ok (.f2d, 1) := by decide +kernel
theorem dL_law_3008 : decode cL_law 3008 = .ok (.dstore 7, 2) := by decide +kernel
theorem dL_law_301 : decode cL_law 301 = .ok (.iaload, 1) := by decide +kernel
theorem dL_law_3010 : decode cL_law 3010 = .ok (.dload 5, 2) := by decide +kernel
theorem dL_law_3012 : decode cL_law 3012 = .ok (.dload 7, 2) := by decide +kernel
theorem dL_law_3014 : decode cL_law 3014 = .ok (.dcmp .l, 1) := by decide +kernel
theorem dL_law_3015 : decode cL_law 3015 = .ok (.ifCond .eq 21, 3) := by decide +kernel
theorem dL_law_302 : decode cL_law 302 = .ok (.i2l, 1) := by decide +kernel
theorem dL_law_303 : decode cL_law 303 = .ok (.bipush 32, 2) := by decide +kernel
theorem dL_law_3036 : decode cL_law 3036 = .ok (.goto 3, 3) := by decide +kernel
theorem dL_law_305 : decode cL_law 305 = .ok (.lshl, 1) := by decide +kernel
theorem dL_law_306 : decode cL_law 306 = .ok (.aload_n 0, 1) := by decide +kernel
theorem dL_law_307 : decode cL_law 307 = .ok (.iload 4, 2) := by decide +kernel
theorem dL_law_309 : decode cL_law 309 = .ok (.iconst 4, 1) := by decide +kernel
theorem dL_law_310 : decode cL_law 310 = .ok (.iadd, 1) := by decide +kernel
theorem dL_law_311 : decode cL_law 311 = .ok (.iaload, 1) := by decide +kernel
theorem dL_law_312 : decode cL_law 312 = .ok (.i2l, 1) := by decide +kernel
theorem dL_law_313 : decode cL_law 313 = .ok (.ldc2_w 137, 3) := by decide +kernel
theorem dL_law_316 : decode cL_law 316 = .ok (.land, 1) := by decide +kernel
theorem dL_law_317 : decode cL_law 317 = .ok (.lor, 1) := by decide +kernel
theorem dL_law_318 : decode cL_law 318 = .ok (.aload_n 0, 1) := by decide +kernel
theorem dL_law_319 : decode cL_law 319 = .ok (.iload 4, 2) := by decide +kernel
theorem dL_law_321 : decode cL_law 321 = .ok (.iconst 5, 1) := by decide +kernel
theorem dL_law_322 : decode cL_law 322 = .ok (.iadd, 1) := by decide +kernel
theorem dL_law_323 : decode cL_law 323 = .ok (.iaload, 1) := by decide +kernel
theorem dL_law_324 : decode cL_law 324 = .ok (.aload_n 3, 1) := by decide +kernel
theorem dL_law_325 : decode cL_law 325 = .ok (.invokestatic 139, 3) := by decide +kernel
theorem dL_law_328 : decode cL_law 328 = .ok (.istore 5, 2) := by decide +kernel
theorem dL_law_330 : decode cL_law 330 = .ok (.aload_n 2, 1) := by decide +kernel
theorem dL_law_331 : decode cL_law 331 = .ok (.aload_n 0, 1) := by decide +kernel
theorem dL_law_332 : decode cL_law 332 = .ok (.iload 4, 2) := by decide +kernel
theorem dL_law_334 : decode cL_law 334 = .ok (.iconst 1, 1) := by decide +kernel
theorem dL_law_335 : decode cL_law 335 = .ok (.iadd, 1) := by decide +kernel
theorem dL_law_336 : decode cL_law 336 = .ok (.iaload, 1) := by decide +kernel
theorem dL_law_337 : decode cL_law 337 = .ok (.i2l, 1) := by decide +kernel
theorem dL_law_338 : decode cL_law 338 = .ok (.bipush 32, 2) := by decide +kernel
theorem dL_law_340 : decode cL_law 340 = .ok (.lshl, 1) := by decide +kernel
theorem dL_law_341 : decode cL_law 341 = .ok (.aload_n 0, 1) := by decide +kernel
theorem dL_law_342 : decode cL_law 342 = .ok (.iload 4, 2) := by decide +kernel
theorem dL_law_344 : decode cL_law 344 = .ok (.iconst 2, 1) := by decide +kernel
theorem dL_law_345 : decode cL_law 345 = .ok (.iadd, 1) := by decide +kernel
theorem dL_law_346 : decode cL_law 346 = .ok (.iaload, 1) := by decide +kernel
theorem dL_law_347 : decode cL_law 347 = .ok (.i2l, 1) := by decide +kernel
theorem dL_law_348 : decode cL_law 348 = .ok (.ldc2_w 137, 3) := by decide +kernel
theorem dL_law_351 : decode cL_law 351 = .ok (.land, 1) := by decide +kernel
theorem dL_law_352 : decode cL_law 352 = .ok (.lor, 1) := by decide +kernel
theorem dL_law_353 : decode cL_law 353 = .ok (.aload_n 0, 1) := by decide +kernel
theorem dL_law_354 : decode cL_law 354 = .ok (.iload 4, 2) := by decide +kernel
theorem dL_law_356 : decode cL_law 356 = .ok (.iconst 3, 1) := by decide +kernel
theorem dL_law_357 : decode cL_law 357 = .ok (.iadd, 1) := by decide +kernel
theorem dL_law_358 : decode cL_law 358 = .ok (.iaload, 1) := by decide +kernel
theorem dL_law_359 : decode cL_law 359 = .ok (.i2l, 1) := by decide +kernel
theorem dL_law_360 : decode cL_law 360 = .ok (.bipush 32, 2) := by decide +kernel
theorem dL_law_362 : decode cL_law 362 = .ok (.lshl, 1) := by decide +kernel
theorem dL_law_363 : decode cL_law 363 = .ok (.aload_n 0, 1) := by decide +kernel
theorem dL_law_364 : decode cL_law 364 = .ok (.iload 4, 2) := by decide +kernel
theorem dL_law_366 : decode cL_law 366 = .ok (.iconst 4, 1) := by decide +kernel
theorem dL_law_367 : decode cL_law 367 = .ok (.iadd, 1) := by decide +kernel
theorem dL_law_368 : decode cL_law 368 = .ok (.iaload, 1) := by decide +kernel
theorem dL_law_369 : decode cL_law 369 = .ok (.i2l, 1) := by decide +kernel
theorem dL_law_370 : decode cL_law 370 = .ok (.ldc2_w 137, 3) := by decide +kernel
theorem dL_law_373 : decode cL_law 373 = .ok (.land, 1) := by decide +kernel
theorem dL_law_374 : decode cL_law 374 = .ok (.lor, 1) := by decide +kernel
theorem dL_law_375 : decode cL_law 375 = .ok (.aload_n 0, 1) := by decide +kernel
theorem dL_law_376 : decode cL_law 376 = .ok (.iload 4, 2) := by decide +kernel
theorem dL_law_378 : decode cL_law 378 = .ok (.iconst 5, 1) := by decide +kernel
theorem dL_law_379 : decode cL_law 379 = .ok (.iadd, 1) := by decide +kernel
theorem dL_law_380 : decode cL_law 380 = .ok (.iaload, 1) := by decide +kernel
theorem dL_law_381 : decode cL_law 381 = .ok (.invokevirtual 142, 3) := by decide +kernel
theorem dL_law_384 : decode cL_law 384 = .ok (.lstore 6, 2) := by decide +kernel
theorem dL_law_386 : decode cL_law 386 = .ok (.aload_n 2, 1) := by decide +kernel
theorem dL_law_387 : decode cL_law 387 = .ok (.invokevirtual 130, 3) := by decide +kernel
theorem dL_law_390 : decode cL_law 390 = .ok (.iload 5, 2) := by decide +kernel
theorem dL_law_392 : decode cL_law 392 = .ok (.if_icmp .eq 5, 3) := by decide +kernel
theorem dL_law_397 : decode cL_law 397 = .ok (.iload 5, 2) := by decide +kernel
theorem dL_law_399 : decode cL_law 399 = .ok (.ifCond .ne 14, 3) := by decide +kernel
theorem dL_law_402 : decode cL_law 402 = .ok (.aload_n 3, 1) := by decide +kernel
theorem dL_law_403 : decode cL_law 403 = .ok (.iconst 0, 1) := by decide +kernel
theorem dL_law_404 : decode cL_law 404 = .ok (.laload, 1) := by decide +kernel
theorem dL_law_405 : decode cL_law 405 = .ok (.lload 6, 2) := by decide +kernel
theorem dL_law_407 : decode cL_law 407 = .ok (.lcmp, 1) := by decide +kernel
theorem dL_law_408 : decode cL_law 408 = .ok (.ifCond .eq 5, 3) := by decide +kernel
theorem dL_law_413 : decode cL_law 413 = .ok (.goto 2626, 3) := by decide +kernel
theorem dL_law_416 : decode cL_law 416 = .ok (.aload_n 1, 1) := by decide +kernel
theorem dL_law_417 : decode cL_law 417 = .ok (.aload_n 0, 1) := by decide +kernel
theorem dL_law_418 : decode cL_law 418 = .ok (.iload 4, 2) := by decide +kernel
theorem dL_law_420 : decode cL_law 420 = .ok (.iconst 1, 1) := by decide +kernel
theorem dL_law_421 : decode cL_law 421 = .ok (.iadd, 1) := by decide +kernel
theorem dL_law_422 : decode cL_law 422 = .ok (.iaload, 1) := by decide +kernel
theorem dL_law_423 : decode cL_law 423 = .ok (.aload_n 0, 1) := by decide +kernel
theorem dL_law_424 : decode cL_law 424 = .ok (.iload 4, 2) := by decide +kernel
theorem dL_law_426 : decode cL_law 426 = .ok (.iconst 2, 1) := by decide +kernel
theorem dL_law_427 : decode cL_law 427 = .ok (.iadd, 1) := by decide +kernel
theorem dL_law_428 : decode cL_law 428 = .ok (.iaload, 1) := by decide +kernel
theorem dL_law_429 : decode cL_law 429 = .ok (.i2l, 1) := by decide +kernel
theorem dL_law_430 : decode cL_law 430 = .ok (.bipush 32, 2) := by decide +kernel
theorem dL_law_432 : decode cL_law 432 = .ok (.lshl, 1) := by decide +kernel
theorem dL_law_433 : decode cL_law 433 = .ok (.aload_n 0, 1) := by decide +kernel
theorem dL_law_434 : decode cL_law 434 = .ok (.iload 4, 2) := by decide +kernel
theorem dL_law_436 : decode cL_law 436 = .ok (.iconst 3, 1) := by decide +kernel
theorem dL_law_437 : decode cL_law 437 = .ok (.iadd, 1) := by decide +kernel
theorem dL_law_438 : decode cL_law 438 = .ok (.iaload, 1) := by decide +kernel
theorem dL_law_439 : decode cL_law 439 = .ok (.i2l, 1) := by decide +kernel
theorem dL_law_440 : decode cL_law 440 = .ok (.ldc2_w 137, 3) := by decide +kernel
theorem dL_law_443 : decode cL_law 443 = .ok (.land, 1) := by decide +kernel
theorem dL_law_444 : decode cL_law 444 = .ok (.lor, 1) := by decide +kernel
theorem dL_law_445 : decode cL_law 445 = .ok (.aload_n 3, 1) := by decide +kernel
theorem dL_law_446 : decode cL_law 446 = .ok (.invokestatic 143, 3) := by decide +kernel
theorem dL_law_449 : decode cL_law 449 = .ok (.istore 5, 2) := by decide +kernel
theorem dL_law_451 : decode cL_law 451 = .ok (.aload_n 2, 1) := by decide +kernel
theorem dL_law_452 : decode cL_law 452 = .ok (.aload_n 0, 1) := by decide +kernel
theorem dL_law_453 : decode cL_law 453 = .ok (.iload 4, 2) := by decide +kernel
theorem dL_law_455 : decode cL_law 455 = .ok (.iconst 1, 1) := by decide +kernel
theorem dL_law_456 : decode cL_law 456 = .ok (.iadd, 1) := by decide +kernel
theorem dL_law_457 : decode cL_law 457 = .ok (.iaload, 1) := by decide +kernel
theorem dL_law_458 : decode cL_law 458 = .ok (.aload_n 0, 1) := by decide +kernel
theorem dL_law_459 : decode cL_law 459 = .ok (.iload 4, 2) := by decide +kernel
theorem dL_law_461 : decode cL_law 461 = .ok (.iconst 2, 1) := by decide +kernel
theorem dL_law_462 : decode cL_law 462 = .ok (.iadd, 1) := by decide +kernel
theorem dL_law_463 : decode cL_law 463 = .ok (.iaload, 1) := by decide +kernel
theorem dL_law_464 : decode cL_law 464 = .ok (.i2l, 1) := by decide +kernel
theorem dL_law_465 : decode cL_law 465 = .ok (.bipush 32, 2) := by decide +kernel
theorem dL_law_467 : decode cL_law 467 = .ok (.lshl, 1) := by decide +kernel
theorem dL_law_468 : decode cL_law 468 = .ok (.aload_n 0, 1) := by decide +kernel
theorem dL_law_469 : decode cL_law 469 = .ok (.iload 4, 2) := by decide +kernel
theorem dL_law_471 : decode cL_law 471 = .ok (.iconst 3, 1) := by decide +kernel
theorem dL_law_472 : decode cL_law 472 = .ok (.iadd, 1) := by decide +kernel
theorem dL_law_473 : decode cL_law 473 = .ok (.iaload, 1) := by decide +kernel
theorem dL_law_474 : decode cL_law 474 = .ok (.i2l, 1) := by decide +kernel
theorem dL_law_475 : decode cL_law 475 = .ok (.ldc2_w 137, 3) := by decide +kernel
theorem dL_law_478 : decode cL_law 478 = .ok (.land, 1) := by decide +kernel
theorem dL_law_479 : decode cL_law 479 = .ok (.lor, 1) := by decide +kernel
theorem dL_law_480 : decode cL_law 480 = .ok (.invokevirtual 146, 3) := by decide +kernel
theorem dL_law_483 : decode cL_law 483 = .ok (.lstore 6, 2) := by decide +kernel
theorem dL_law_485 : decode cL_law 485 = .ok (.aload_n 2, 1) := by decide +kernel
theorem dL_law_486 : decode cL_law 486 = .ok (.invokevirtual 130, 3) := by decide +kernel
theorem dL_law_489 : decode cL_law 489 = .ok (.iload 5, 2) := by decide +kernel
theorem dL_law_491 : decode cL_law 491 = .ok (.if_icmp .eq 5, 3) := by decide +kernel
theorem dL_law_496 : decode cL_law 496 = .ok (.iload 5, 2) := by decide +kernel
theorem dL_law_498 : decode cL_law 498 = .ok (.ifCond .ne 14, 3) := by decide +kernel
theorem dL_law_501 : decode cL_law 501 = .ok (.aload_n 3, 1) := by decide +kernel
theorem dL_law_502 : decode cL_law 502 = .ok (.iconst 0, 1) := by decide +kernel
theorem dL_law_503 : decode cL_law 503 = .ok (.laload, 1) := by decide +kernel
theorem dL_law_504 : decode cL_law 504 = .ok (.lload 6, 2) := by decide +kernel
theorem dL_law_506 : decode cL_law 506 = .ok (.lcmp, 1) := by decide +kernel
theorem dL_law_507 : decode cL_law 507 = .ok (.ifCond .eq 5, 3) := by decide +kernel
theorem dL_law_512 : decode cL_law 512 = .ok (.goto 2527, 3) := by decide +kernel
theorem dL_law_515 : decode cL_law 515 = .ok (.aload_n 1, 1) := by decide +kernel
theorem dL_law_516 : decode cL_law 516 = .ok (.aload_n 0, 1) := by decide +kernel
theorem dL_law_517 : decode cL_law 517 = .ok (.iload 4, 2) := by decide +kernel
theorem dL_law_519 : decode cL_law 519 = .ok (.iconst 1, 1) := by decide +kernel
theorem dL_law_520 : decode cL_law 520 = .ok (.iadd, 1) := by decide +kernel
theorem dL_law_521 : decode cL_law 521 = .ok (.iaload, 1) := by decide +kernel
theorem dL_law_522 : decode cL_law 522 = .ok (.aload_n 0, 1) := by decide +kernel
theorem dL_law_523 : decode cL_law 523 = .ok (.iload 4, 2) := by decide +kernel
theorem dL_law_525 : decode cL_law 525 = .ok (.iconst 2, 1) := by decide +kernel
theorem dL_law_526 : decode cL_law 526 = .ok (.iadd, 1) := by decide +kernel
theorem dL_law_527 : decode cL_law 527 = .ok (.iaload, 1) := by decide +kernel
theorem dL_law_528 : decode cL_law 528 = .ok (.aload_n 0, 1) := by decide +kernel
theorem dL_law_529 : decode cL_law 529 = .ok (.iload 4, 2) := by decide +kernel
theorem dL_law_531 : decode cL_law 531 = .ok (.iconst 3, 1) := by decide +kernel
theorem dL_law_532 : decode cL_law 532 = .ok (.iadd, 1) := by decide +kernel
theorem dL_law_533 : decode cL_law 533 = .ok (.iaload, 1) := by decide +kernel
theorem dL_law_534 : decode cL_law 534 = .ok (.i2l, 1) := by decide +kernel
theorem dL_law_535 : decode cL_law 535 = .ok (.bipush 32, 2) := by decide +kernel
theorem dL_law_537 : decode cL_law 537 = .ok (.lshl, 1) := by decide +kernel
theorem dL_law_538 : decode cL_law 538 = .ok (.aload_n 0, 1) := by decide +kernel
theorem dL_law_539 : decode cL_law 539 = .ok (.iload 4, 2) := by decide +kernel
theorem dL_law_541 : decode cL_law 541 = .ok (.iconst 4, 1) := by decide +kernel
theorem dL_law_542 : decode cL_law 542 = .ok (.iadd, 1) := by decide +kernel
theorem dL_law_543 : decode cL_law 543 = .ok (.iaload, 1) := by decide +kernel
theorem dL_law_544 : decode cL_law 544 = .ok (.i2l, 1) := by decide +kernel
theorem dL_law_545 : decode cL_law 545 = .ok (.ldc2_w 137, 3) := by decide +kernel
theorem dL_law_548 : decode cL_law 548 = .ok (.land, 1) := by decide +kernel
theorem dL_law_549 : decode cL_law 549 = .ok (.lor, 1) := by decide +kernel
theorem dL_law_550 : decode cL_law 550 = .ok (.aload_n 0, 1) := by decide +kernel
theorem dL_law_551 : decode cL_law 551 = .ok (.iload 4, 2) := by decide +kernel
theorem dL_law_553 : decode cL_law 553 = .ok (.iconst 5, 1) := by decide +kernel
theorem dL_law_554 : decode cL_law 554 = .ok (.iadd, 1) := by decide +kernel
theorem dL_law_555 : decode cL_law 555 = .ok (.iaload, 1) := by decide +kernel
theorem dL_law_556 : decode cL_law 556 = .ok (.i2l, 1) := by decide +kernel
theorem dL_law_557 : decode cL_law 557 = .ok (.bipush 32, 2) := by decide +kernel
theorem dL_law_559 : decode cL_law 559 = .ok (.lshl, 1) := by decide +kernel
theorem dL_law_560 : decode cL_law 560 = .ok (.aload_n 0, 1) := by decide +kernel
theorem dL_law_561 : decode cL_law 561 = .ok (.iload 4, 2) := by decide +kernel
theorem dL_law_563 : decode cL_law 563 = .ok (.bipush 6, 2) := by decide +kernel
theorem dL_law_565 : decode cL_law 565 = .ok (.iadd, 1) := by decide +kernel
theorem dL_law_566 : decode cL_law 566 = .ok (.iaload, 1) := by decide +kernel
theorem dL_law_567 : decode cL_law 567 = .ok (.i2l, 1) := by decide +kernel
theorem dL_law_568 : decode cL_law 568 = .ok (.ldc2_w 137, 3) := by decide +kernel
theorem dL_law_571 : decode cL_law 571 = .ok (.land, 1) := by decide +kernel
theorem dL_law_572 : decode cL_law 572 = .ok (.lor, 1) := by decide +kernel
theorem dL_law_573 : decode cL_law 573 = .ok (.aload_n 3, 1) := by decide +kernel
theorem dL_law_574 : decode cL_law 574 = .ok (.invokestatic 147, 3) := by decide +kernel
theorem dL_law_577 : decode cL_law 577 = .ok (.istore 5, 2) := by decide +kernel
theorem dL_law_579 : decode cL_law 579 = .ok (.aload_n 2, 1) := by decide +kernel
theorem dL_law_580 : decode cL_law 580 = .ok (.aload_n 0, 1) := by decide +kernel
theorem dL_law_581 : decode cL_law 581 = .ok (.iload 4, 2) := by decide +kernel
theorem dL_law_583 : decode cL_law 583 = .ok (.iconst 1, 1) := by decide +kernel
theorem dL_law_584 : decode cL_law 584 = .ok (.iadd, 1) := by decide +kernel
theorem dL_law_585 : decode cL_law 585 = .ok (.iaload, 1) := by decide +kernel
theorem dL_law_586 : decode cL_law 586 = .ok (.aload_n 0, 1) := by decide +kernel
theorem dL_law_587 : decode cL_law 587 = .ok (.iload 4, 2) := by decide +kernel
theorem dL_law_589 : decode cL_law 589 = .ok (.iconst 2, 1) := by decide +kernel
theorem dL_law_590 : decode cL_law 590 = .ok (.iadd, 1) := by decide +kernel
theorem dL_law_591 : decode cL_law 591 = .ok (.iaload, 1) := by decide +kernel
theorem dL_law_592 : decode cL_law 592 = .ok (.aload_n 0, 1) := by decide +kernel
theorem dL_law_593 : decode cL_law 593 = .ok (.iload 4, 2) := by decide +kernel
theorem dL_law_595 : decode cL_law 595 = .ok (.iconst 3, 1) := by decide +kernel
theorem dL_law_596 : decode cL_law 596 = .ok (.iadd, 1) := by decide +kernel
theorem dL_law_597 : decode cL_law 597 = .ok (.iaload, 1) := by decide +kernel
theorem dL_law_598 : decode cL_law 598 = .ok (.i2l, 1) := by decide +kernel
theorem dL_law_599 : decode cL_law 599 = .ok (.bipush 32, 2) := by decide +kernel
theorem dL_law_601 : decode cL_law 601 = .ok (.lshl, 1) := by decide +kernel
theorem dL_law_602 : decode cL_law 602 = .ok (.aload_n 0, 1) := by decide +kernel
theorem dL_law_603 : decode cL_law 603 = .ok (.iload 4, 2) := by decide +kernel
theorem dL_law_605 : decode cL_law 605 = .ok (.iconst 4, 1) := by decide +kernel
theorem dL_law_606 : decode cL_law 606 = .ok (.iadd, 1) := by decide +kernel
theorem dL_law_607 : decode cL_law 607 = .ok (.iaload, 1) := by decide +kernel
theorem dL_law_608 : decode cL_law 608 = .ok (.i2l, 1) := by decide +kernel
theorem dL_law_609 : decode cL_law 609 = .ok (.ldc2_w 137, 3) := by decide +kernel
theorem dL_law_612 : decode cL_law 612 = .ok (.land, 1) := by decide +kernel
theorem dL_law_613 : decode cL_law 613 = .ok (.lor, 1) := by decide +kernel
theorem dL_law_614 : decode cL_law 614 = .ok (.aload_n 0, 1) := by decide +kernel
theorem dL_law_615 : decode cL_law 615 = .ok (.iload 4, 2) := by decide +kernel
theorem dL_law_617 : decode cL_law 617 = .ok (.iconst 5, 1) := by decide +kernel
theorem dL_law_618 : decode cL_law 618 = .ok (.iadd, 1) := by decide +kernel
theorem dL_law_619 : decode cL_law 619 = .ok (.iaload, 1) := by decide +kernel
theorem dL_law_620 : decode cL_law 620 = .ok (.i2l, 1) := by decide +kernel
theorem dL_law_621 : decode cL_law 621 = .ok (.bipush 32, 2) := by decide +kernel
theorem dL_law_623 : decode cL_law 623 = .ok (.lshl, 1) := by decide +kernel
theorem dL_law_624 : decode cL_law 624 = .ok (.aload_n 0, 1) := by decide +kernel
theorem dL_law_625 : decode cL_law 625 = .ok (.iload 4, 2) := by decide +kernel
theorem dL_law_627 : decode cL_law 627 = .ok (.bipush 6, 2) := by decide +kernel
theorem dL_law_629 : decode cL_law 629 = .ok (.iadd, 1) := by decide +kernel
theorem dL_law_630 : decode cL_law 630 = .ok (.iaload, 1) := by decide +kernel
theorem dL_law_631 : decode cL_law 631 = .ok (.i2l, 1) := by decide +kernel
theorem dL_law_632 : decode cL_law 632 = .ok (.ldc2_w 137, 3) := by decide +kernel
theorem dL_law_635 : decode cL_law 635 = .ok (.land, 1) := by decide +kernel
theorem dL_law_636 : decode cL_law 636 = .ok (.lor, 1) := by decide +kernel
theorem dL_law_637 : decode cL_law 637 = .ok (.invokevirtual 150, 3) := by decide +kernel
theorem dL_law_640 : decode cL_law 640 = .ok (.istore 6, 2) := by decide +kernel
theorem dL_law_642 : decode cL_law 642 = .ok (.aload_n 2, 1) := by decide +kernel
theorem dL_law_643 : decode cL_law 643 = .ok (.invokevirtual 130, 3) := by decide +kernel
theorem dL_law_646 : decode cL_law 646 = .ok (.iload 5, 2) := by decide +kernel
theorem dL_law_648 : decode cL_law 648 = .ok (.if_icmp .eq 5, 3) := by decide +kernel
theorem dL_law_653 : decode cL_law 653 = .ok (.iload 5, 2) := by decide +kernel
theorem dL_law_655 : decode cL_law 655 = .ok (.ifCond .ne 15, 3) := by decide +kernel
theorem dL_law_658 : decode cL_law 658 = .ok (.aload_n 3, 1) := by decide +kernel
theorem dL_law_659 : decode cL_law 659 = .ok (.iconst 0, 1) := by decide +kernel
theorem dL_law_660 : decode cL_law 660 = .ok (.laload, 1) := by decide +kernel
theorem dL_law_661 : decode cL_law 661 = .ok (.iload 6, 2) := by decide +kernel
theorem dL_law_663 : decode cL_law 663 = .ok (.i2l, 1) := by decide +kernel
theorem dL_law_664 : decode cL_law 664 = .ok (.lcmp, 1) := by decide +kernel
theorem dL_law_665 : decode cL_law 665 = .ok (.ifCond .eq 5, 3) := by decide +kernel
theorem dL_law_670 : decode cL_law 670 = .ok (.goto 2369, 3) := by decide +kernel
theorem dL_law_673 : decode cL_law 673 = .ok (.aload_n 1, 1) := by decide +kernel
theorem dL_law_674 : decode cL_law 674 = .ok (.invokevirtual 151, 3) := by decide +kernel
theorem dL_law_677 : decode cL_law 677 = .ok (.aload_n 2, 1) := by decide +kernel
theorem dL_law_678 : decode cL_law 678 = .ok (.invokevirtual 154, 3) := by decide +kernel
theorem dL_law_681 : decode cL_law 681 = .ok (.if_icmp .eq 2358, 3) := by decide +kernel
theorem dL_law_686 : decode cL_law 686 = .ok (.aload_n 1, 1) := by decide +kernel
theorem dL_law_687 : decode cL_law 687 = .ok (.aload_n 0, 1) := by decide +kernel
theorem dL_law_688 : decode cL_law 688 = .ok (.iload 4, 2) := by decide +kernel
theorem dL_law_690 : decode cL_law 690 = .ok (.iconst 1, 1) := by decide +kernel
theorem dL_law_691 : decode cL_law 691 = .ok (.iadd, 1) := by decide +kernel
theorem dL_law_692 : decode cL_law 692 = .ok (.iaload, 1) := by decide +kernel
theorem dL_law_693 : decode cL_law 693 = .ok (.aload_n 3, 1) := by decide +kernel
theorem dL_law_694 : decode cL_law 694 = .ok (.invokestatic 155, 3) := by decide +kernel
theorem dL_law_697 : decode cL_law 697 = .ok (.istore 5, 2) := by decide +kernel
theorem dL_law_699 : decode cL_law 699 = .ok (.aload_n 2, 1) := by decide +kernel
theorem dL_law_700 : decode cL_law 700 = .ok (.aload_n 0, 1) := by decide +kernel
theorem dL_law_701 : decode cL_law 701 = .ok (.iload 4, 2) := by decide +kernel
theorem dL_law_703 : decode cL_law 703 = .ok (.iconst 1, 1) := by decide +kernel
theorem dL_law_704 : decode cL_law 704 = .ok (.iadd, 1) := by decide +kernel
theorem dL_law_705 : decode cL_law 705 = .ok (.iaload, 1) := by decide +kernel
theorem dL_law_706 : decode cL_law 706 = .ok (.invokevirtual 157, 3) := by decide +kernel
theorem dL_law_709 : decode cL_law 709 = .ok (.lstore 6, 2) := by decide +kernel
theorem dL_law_711 : decode cL_law 711 = .ok (.aload_n 2, 1) := by decide +kernel
theorem dL_law_712 : decode cL_law 712 = .ok (.invokevirtual 130, 3) := by decide +kernel
theorem dL_law_715 : decode cL_law 715 = .ok (.iload 5, 2) := by decide +kernel
theorem dL_law_717 : decode cL_law 717 = .ok (.if_icmp .eq 5, 3) := by decide +kernel
theorem dL_law_722 : decode cL_law 722 = .ok (.iload 5, 2) := by decide +kernel
theorem dL_law_724 : decode cL_law 724 = .ok (.ifCond .ne 14, 3) := by decide +kernel
theorem dL_law_727 : decode cL_law 727 = .ok (.aload_n 3, 1) := by decide +kernel
theorem dL_law_728 : decode cL_law 728 = .ok (.iconst 0, 1) := by decide +kernel
theorem dL_law_729 : decode cL_law 729 = .ok (.laload, 1) := by decide +kernel
theorem dL_law_730 : decode cL_law 730 = .ok (.lload 6, 2) := by decide +kernel
theorem dL_law_732 : decode cL_law 732 = .ok (.lcmp, 1) := by decide +kernel
theorem dL_law_733 : decode cL_law 733 = .ok (.ifCond .eq 5, 3) := by decide +kernel
theorem dL_law_738 : decode cL_law 738 = .ok (.goto 2301, 3) := by decide +kernel
theorem dL_law_741 : decode cL_law 741 = .ok (.aload_n 1, 1) := by decide +kernel
theorem dL_law_742 : decode cL_law 742 = .ok (.aload_n 0, 1) := by decide +kernel
theorem dL_law_743 : decode cL_law 743 = .ok (.iload 4, 2) := by decide +kernel
theorem dL_law_745 : decode cL_law 745 = .ok (.iconst 1, 1) := by decide +kernel
theorem dL_law_746 : decode cL_law 746 = .ok (.iadd, 1) := by decide +kernel
theorem dL_law_747 : decode cL_law 747 = .ok (.iaload, 1) := by decide +kernel
theorem dL_law_748 : decode cL_law 748 = .ok (.aload_n 0, 1) := by decide +kernel
theorem dL_law_749 : decode cL_law 749 = .ok (.iload 4, 2) := by decide +kernel
theorem dL_law_751 : decode cL_law 751 = .ok (.iconst 2, 1) := by decide +kernel
theorem dL_law_752 : decode cL_law 752 = .ok (.iadd, 1) := by decide +kernel
theorem dL_law_753 : decode cL_law 753 = .ok (.iaload, 1) := by decide +kernel
theorem dL_law_754 : decode cL_law 754 = .ok (.aload_n 3, 1) := by decide +kernel
theorem dL_law_755 : decode cL_law 755 = .ok (.invokestatic 158, 3) := by decide +kernel
theorem dL_law_758 : decode cL_law 758 = .ok (.istore 5, 2) := by decide +kernel
theorem dL_law_760 : decode cL_law 760 = .ok (.aload_n 2, 1) := by decide +kernel
theorem dL_law_761 : decode cL_law 761 = .ok (.aload_n 0, 1) := by decide +kernel
theorem dL_law_762 : decode cL_law 762 = .ok (.iload 4, 2) := by decide +kernel
theorem dL_law_764 : decode cL_law 764 = .ok (.iconst 1, 1) := by decide +kernel
theorem dL_law_765 : decode cL_law 765 = .ok (.iadd, 1) := by decide +kernel
theorem dL_law_766 : decode cL_law 766 = .ok (.iaload, 1) := by decide +kernel
theorem dL_law_767 : decode cL_law 767 = .ok (.aload_n 0, 1) := by decide +kernel
theorem dL_law_768 : decode cL_law 768 = .ok (.iload 4, 2) := by decide +kernel
theorem dL_law_770 : decode cL_law 770 = .ok (.iconst 2, 1) := by decide +kernel
theorem dL_law_771 : decode cL_law 771 = .ok (.iadd, 1) := by decide +kernel
theorem dL_law_772 : decode cL_law 772 = .ok (.iaload, 1) := by decide +kernel
theorem dL_law_773 : decode cL_law 773 = .ok (.invokevirtual 161, 3) := by decide +kernel
theorem dL_law_776 : decode cL_law 776 = .ok (.lstore 6, 2) := by decide +kernel
theorem dL_law_778 : decode cL_law 778 = .ok (.aload_n 2, 1) := by decide +kernel
theorem dL_law_779 : decode cL_law 779 = .ok (.invokevirtual 130, 3) := by decide +kernel
theorem dL_law_782 : decode cL_law 782 = .ok (.iload 5, 2) := by decide +kernel
theorem dL_law_784 : decode cL_law 784 = .ok (.if_icmp .eq 5, 3) := by decide +kernel
theorem dL_law_789 : decode cL_law 789 = .ok (.iload 5, 2) := by decide +kernel
theorem dL_law_791 : decode cL_law 791 = .ok (.ifCond .ne 14, 3) := by decide +kernel
theorem dL_law_794 : decode cL_law 794 = .ok (.aload_n 3, 1) := by decide +kernel
theorem dL_law_795 : decode cL_law 795 = .ok (.iconst 0, 1) := by decide +kernel
theorem dL_law_796 : decode cL_law 796 = .ok (.laload, 1) := by decide +kernel
theorem dL_law_797 : decode cL_law 797 = .ok (.lload 6, 2) := by decide +kernel
theorem dL_law_799 : decode cL_law 799 = .ok (.lcmp, 1) := by decide +kernel
theorem dL_law_800 : decode cL_law 800 = .ok (.ifCond .eq 5, 3) := by decide +kernel
theorem dL_law_805 : decode cL_law 805 = .ok (.goto 2234, 3) := by decide +kernel
theorem dL_law_808 : decode cL_law 808 = .ok (.aload_n 1, 1) := by decide +kernel
theorem dL_law_809 : decode cL_law 809 = .ok (.aload_n 0, 1) := by decide +kernel
theorem dL_law_810 : decode cL_law 810 = .ok (.iload 4, 2) := by decide +kernel
theorem dL_law_812 : decode cL_law 812 = .ok (.iconst 1, 1) := by decide +kernel
theorem dL_law_813 : decode cL_law 813 = .ok (.iadd, 1) := by decide +kernel
theorem dL_law_814 : decode cL_law 814 = .ok (.iaload, 1) := by decide +kernel
theorem dL_law_815 : decode cL_law 815 = .ok (.aload_n 3, 1) := by decide +kernel
theorem dL_law_816 : decode cL_law 816 = .ok (.invokestatic 162, 3) := by decide +kernel
theorem dL_law_819 : decode cL_law 819 = .ok (.istore 5, 2) := by decide +kernel
theorem dL_law_821 : decode cL_law 821 = .ok (.aload_n 2, 1) := by decide +kernel
theorem dL_law_822 : decode cL_law 822 = .ok (.aload_n 0, 1) := by decide +kernel
theorem dL_law_823 : decode cL_law 823 = .ok (.iload 4, 2) := by decide +kernel
theorem dL_law_825 : decode cL_law 825 = .ok (.iconst 1, 1) := by decide +kernel
theorem dL_law_826 : decode cL_law 826 = .ok (.iadd, 1) := by decide +kernel
theorem dL_law_827 : decode cL_law 827 = .ok (.iaload, 1) := by decide +kernel
theorem dL_law_828 : decode cL_law 828 = .ok (.invokevirtual 164, 3) := by decide +kernel
theorem dL_law_831 : decode cL_law 831 = .ok (.istore 6, 2) := by decide +kernel
theorem dL_law_833 : decode cL_law 833 = .ok (.aload_n 2, 1) := by decide +kernel
theorem dL_law_834 : decode cL_law 834 = .ok (.invokevirtual 130, 3) := by decide +kernel
theorem dL_law_837 : decode cL_law 837 = .ok (.iload 5, 2) := by decide +kernel
theorem dL_law_839 : decode cL_law 839 = .ok (.if_icmp .eq 5, 3) := by decide +kernel
theorem dL_law_844 : decode cL_law 844 = .ok (.iload 5, 2) := by decide +kernel
theorem dL_law_846 : decode cL_law 846 = .ok (.ifCond .ne 15, 3) := by decide +kernel
theorem dL_law_849 : decode cL_law 849 = .ok (.aload_n 3, 1) := by decide +kernel
theorem dL_law_850 : decode cL_law 850 = .ok (.iconst 0, 1) := by decide +kernel
theorem dL_law_851 : decode cL_law 851 = .ok (.laload, 1) := by decide +kernel
theorem dL_law_852 : decode cL_law 852 = .ok (.iload 6, 2) := by decide +kernel
theorem dL_law_854 : decode cL_law 854 = .ok (.i2l, 1) := by decide +kernel
theorem dL_law_855 : decode cL_law 855 = .ok (.lcmp, 1) := by decide +kernel
theorem dL_law_856 : decode cL_law 856 = .ok (.ifCond .eq 5, 3) := by decide +kernel
theorem dL_law_861 : decode cL_law 861 = .ok (.goto 2178, 3) := by decide +kernel
theorem dL_law_864 : decode cL_law 864 = .ok (.aload_n 1, 1) := by decide +kernel
theorem dL_law_865 : decode cL_law 865 = .ok (.invokevirtual 165, 3) := by decide +kernel
theorem dL_law_868 : decode cL_law 868 = .ok (.aload_n 2, 1) := by decide +kernel
theorem dL_law_869 : decode cL_law 869 = .ok (.invokevirtual 168, 3) := by decide +kernel
theorem dL_law_872 : decode cL_law 872 = .ok (.if_icmp .eq 2167, 3) := by decide +kernel
theorem dL_law_877 : decode cL_law 877 = .ok (.aload_n 1, 1) := by decide +kernel
theorem dL_law_878 : decode cL_law 878 = .ok (.aload_n 3, 1) := by decide +kernel
theorem dL_law_879 : decode cL_law 879 = .ok (.invokestatic 169, 3) := by decide +kernel
theorem dL_law_882 : decode cL_law 882 = .ok (.istore 5, 2) := by decide +kernel
theorem dL_law_884 : decode cL_law 884 = .ok (.aload_n 2, 1) := by decide +kernel
theorem dL_law_885 : decode cL_law 885 = .ok (.invokevirtual 172, 3) := by decide +kernel
theorem dL_law_888 : decode cL_law 888 = .ok (.istore 6, 2) := by decide +kernel
theorem dL_law_890 : decode cL_law 890 = .ok (.aload_n 2, 1) := by decide +kernel
theorem dL_law_891 : decode cL_law 891 = .ok (.invokevirtual 130, 3) := by decide +kernel
theorem dL_law_894 : decode cL_law 894 = .ok (.iload 5, 2) := by decide +kernel
theorem dL_law_896 : decode cL_law 896 = .ok (.if_icmp .eq 5, 3) := by decide +kernel
theorem dL_law_901 : decode cL_law 901 = .ok (.iload 5, 2) := by decide +kernel
theorem dL_law_903 : decode cL_law 903 = .ok (.ifCond .ne 15, 3) := by decide +kernel
theorem dL_law_918 : decode cL_law 918 = .ok (.goto 2121, 3) := by decide +kernel
set_option maxRecDepth 20000 in
theorem ggL_law_L_accrued : GoodIn wsL_law wsL_accrued := goodIn_ca (goodIn_ca (goodIn_r _ [922, 147, 189, 923, 924, 925, 2, 926, 340, 927, 17, 154, 155, 156, 157, 158, 159, 160, 161, 198, 199, 200, 16, 201, 202, 203, 204, 205, 206, 207, 208, 209, 210, 211, 212, 46, 213, 214, 215, 216, 217, 218, 219, 220, 221, 1294, 1295, 1296, 1297, 1298, 1299, 1300, 1301, 1314] (by decide +kernel) (by decide +kernel)) (goodIn_sub (fun _ h => List.mem_append_left _ (List.mem_append_left _ (List.mem_append_right _ h))) (by decide +kernel))) (goodIn_sub (fun _ h => List.mem_append_left _ (List.mem_append_right _ h)) (by decide +kernel))
set_option maxRecDepth 20000 in
theorem gL_law_L_accrued : GoodIn wsL_law (va_wsS RL 203 yL_accrued wsL_accrued) := goodIn_app (goodIn_of _ (by decide +kernel)) ggL_law_L_accrued
set_option maxRecDepth 20000 in
theorem ggL_law_L_amount : GoodIn wsL_law wsL_amount := goodIn_ca (goodIn_r _ [404, 147, 405, 406, 407, 2, 408, 338, 21, 154, 155, 156, 157, 158, 159, 160, 161, 347, 348, 349, 20, 350, 50, 1294, 1295, 1296, 1297, 1298, 1299, 1300, 1301, 1315, 1316, 1317] (by decide +kernel) (by decide +kernel)) (goodIn_sub (fun _ h => List.mem_append_left _ (List.mem_append_left _ (List.mem_append_right _ h))) (by decide +kernel))
set_option maxRecDepth 20000 in
theorem gL_law_L_amount : GoodIn wsL_law (va_wsS RL 155 yL_amount wsL_amount) := goodIn_app (goodIn_of _ (by decide +kernel)) ggL_law_L_amount
set_option maxRecDepth 20000 in
theorem ggL_law_L_bondYield : GoodIn wsL_law wsL_bondYield := goodIn_ca (goodIn_r _ [898, 147, 899, 900, 901, 2, 902, 195, 25, 870, 871, 872, 340, 338, 154, 155, 156, 157, 158, 159, 160, 161, 903, 904, 905, 24, 906, 907, 908, 909, 910, 911, 78, 877, 878, 879, 880, 881, 882, 440, 441, 53, 442, 443, 444, 445, 446, 447, 448, 449, 204, 450, 451, 452, 453, 454, 65, 66, 67, 62, 63, 455, 456, 457, 61, 458, 459, 460, 461, 462, 72, 71, 463, 73, 883, 465, 466, 467, 468, 469, 470, 471, 472, 473, 474, 475, 476, 477, 396, 478, 479, 480, 481, 482, 483, 484, 6, 485, 293, 294, 486, 487, 488, 489, 490, 491, 492, 493, 494, 287, 288, 884, 496, 497, 498, 64, 499, 500, 501, 502, 503, 912, 530, 531, 532, 521, 522, 523, 524, 1294, 1295, 1296, 1297, 1298, 1299, 1300, 1301, 1318, 1336, 1337, 1338, 1339, 1340, 1341, 1342, 1343, 1344] (by decide +kernel) (by decide +kernel)) (goodIn_sub (fun _ h => List.mem_append_left _ (List.mem_append_left _ (List.mem_append_right _ h))) (by decide +kernel))
set_option maxRecDepth 20000 in
theorem gL_law_L_bondYield : GoodIn wsL_law (va_wsS RL 199 yL_bondYield wsL_bondYield) := goodIn_app (goodIn_of _ (by decide +kernel)) ggL_law_L_bondYield
set_option maxRecDepth 20000 in
theorem ggL_law_L_change : GoodIn wsL_law wsL_change := goodIn_ca (goodIn_ca (goodIn_r _ [780, 147, 189, 781, 782, 783, 2, 784, 785, 41, 753, 42, 17, 786, 754, 755, 756, 757, 584, 213, 214, 215, 216, 154, 155, 156, 157, 158, 159, 160, 161, 420, 421, 422, 423, 758, 759, 760, 40, 761, 110, 111, 102, 103, 105, 787, 788, 789, 790, 624, 625, 626, 627, 112, 628, 107, 629, 630, 631, 632, 109, 633, 634, 440, 441, 53, 442, 443, 444, 445, 446, 447, 448, 449, 204, 450, 451, 452, 453, 454, 65, 66, 67, 62, 63, 455, 456, 457, 61, 458, 459, 460, 461, 462, 72, 71, 463, 73, 635, 465, 466, 467, 468, 469, 470, 471, 472, 473, 474, 475, 476, 477, 396, 478, 479, 480, 481, 482, 483, 484, 6, 485, 293, 294, 486, 487, 488, 489, 490, 491, 492, 493, 494, 287, 288, 636, 496, 497, 498, 64, 499, 500, 501, 502, 503, 637, 506, 507, 16, 508, 509, 221, 510, 511, 512, 513, 514, 515, 516, 517, 518, 519, 520, 521, 522, 523, 524, 525, 526, 527, 528, 529, 530, 531, 532, 533, 534, 206, 207, 208, 209, 210, 211, 212, 46, 217, 218, 219, 220, 638, 199, 200, 201, 202, 203, 205, 639, 640, 641, 642, 643, 644, 645, 646, 647, 648, 649, 1294, 1295, 1296, 1297, 1298, 1299, 1300, 1301, 1328, 1329, 1330, 1331, 1332, 1333, 1334, 1335, 1336, 1337, 1338, 1339, 1340, 1341, 1342, 1343, 1344, 1314] (by decide +kernel) (by decide +kernel)) (goodIn_sub (fun _ h => List.mem_append_left _ (List.mem_append_right _ h)) (by decide +kernel))) (goodIn_sub (fun _ h => List.mem_append_left _ (List.mem_append_left _ (List.mem_append_right _ h))) (by decide +kernel))
set_option maxRecDepth 20000 in
theorem gL_law_L_change : GoodIn wsL_law (va_wsS RL 180 yL_change wsL_change) := goodIn_app (goodIn_of _ (by decide +kernel)) ggL_law_L_change
set_option maxRecDepth 20000 in
theorem ggL_law_L_deathWorth : GoodIn wsL_law wsL_deathWorth := goodIn_ca (goodIn_ca (goodIn_ca (goodIn_r _ [1015, 147, 828, 189, 1016, 1017, 1018, 2, 1019, 29, 17, 974, 975, 976, 977, 340, 940, 154, 155, 156, 157, 158, 159, 160, 161, 420, 421, 422, 423, 833, 834, 835, 836, 837, 1020, 1021, 1022, 28, 1023, 85, 982, 83, 983, 1024, 1025, 1026, 1027, 87, 988, 440, 441, 53, 442, 443, 444, 445, 446, 447, 448, 449, 204, 450, 451, 452, 453, 454, 65, 66, 67, 62, 63, 455, 456, 457, 61, 458, 459, 460, 461, 462, 72, 71, 463, 73, 989, 465, 466, 467, 468, 469, 470, 471, 472, 473, 474, 475, 476, 477, 396, 478, 479, 480, 481, 482, 483, 484, 6, 485, 293, 294, 486, 487, 488, 489, 490, 491, 492, 493, 494, 287, 288, 990, 991, 496, 497, 498, 64, 499, 500, 501, 502, 503, 992, 506, 507, 16, 508, 509, 221, 510, 511, 512, 513, 514, 515, 516, 517, 518, 519, 520, 521, 522, 523, 524, 525, 526, 527, 528, 529, 530, 531, 532, 533, 534, 206, 207, 208, 209, 210, 211, 212, 46, 213, 214, 215, 216, 217, 218, 219, 220, 1294, 1295, 1296, 1297, 1298, 1299, 1300, 1301, 1319, 1320, 1321, 1322, 1336, 1337, 1338, 1339, 1340, 1341, 1342, 1343, 1344, 1314] (by decide +kernel) (by decide +kernel)) (goodIn_sub (fun _ h => List.mem_append_left _ (List.mem_append_left _ (List.mem_append_right _ h))) (by decide +kernel))) (goodIn_sub (fun _ h => List.mem_append_right _ h) (by decide +kernel))) (goodIn_sub (fun _ h => List.mem_append_left _ (List.mem_append_right _ h)) (by decide +kernel))
set_option maxRecDepth 20000 in
theorem gL_law_L_deathWorth : GoodIn wsL_law (va_wsS RL 217 yL_deathWorth wsL_deathWorth) := goodIn_app (goodIn_of _ (by decide +kernel)) ggL_law_L_deathWorth
set_option maxRecDepth 20000 in
theorem ggL_law_L_early : GoodIn wsL_law wsL_early := goodIn_ca (goodIn_ca (goodIn_r _ [801, 147, 189, 802, 803, 804, 2, 805, 41, 753, 340, 42, 17, 786, 754, 755, 756, 757, 584, 213, 214, 215, 216, 154, 155, 156, 157, 158, 159, 160, 161, 758, 759, 760, 40, 761, 110, 111, 102, 103, 105, 806, 807, 808, 809, 624, 625, 626, 627, 112, 628, 107, 629, 630, 631, 632, 109, 633, 634, 440, 441, 53, 442, 443, 444, 445, 446, 447, 448, 449, 204, 450, 451, 452, 453, 454, 65, 66, 67, 62, 63, 455, 456, 457, 61, 458, 459, 460, 461, 462, 72, 71, 463, 73, 635, 465, 466, 467, 468, 469, 470, 471, 472, 473, 474, 475, 476, 477, 396, 478, 479, 480, 481, 482, 483, 484, 6, 485, 293, 294, 486, 487, 488, 489, 490, 491, 492, 493, 494, 287, 288, 636, 496, 497, 498, 64, 499, 500, 501, 502, 503, 637, 506, 507, 16, 508, 509, 221, 510, 511, 512, 513, 514, 515, 516, 517, 518, 519, 520, 521, 522, 523, 524, 525, 526, 527, 528, 529, 530, 531, 532, 533, 534, 206, 207, 208, 209, 210, 211, 212, 46, 217, 218, 219, 220, 638, 199, 200, 201, 202, 203, 205, 639, 640, 641, 642, 643, 644, 645, 646, 647, 648, 649, 1294, 1295, 1296, 1297, 1298, 1299, 1300, 1301, 1328, 1329, 1330, 1331, 1332, 1333, 1334, 1335, 1336, 1337, 1338, 1339, 1340, 1341, 1342, 1343, 1344, 1314] (by decide +kernel) (by decide +kernel)) (goodIn_sub (fun _ h => List.mem_append_left _ (List.mem_append_right _ h)) (by decide +kernel))) (goodIn_sub (fun _ h => List.mem_append_left _ (List.mem_append_left _ (List.mem_append_right _ h))) (by decide +kernel))
set_option maxRecDepth 20000 in
theorem gL_law_L_early : GoodIn wsL_law (va_wsS RL 183 yL_early wsL_early) := goodIn_app (goodIn_of _ (by decide +kernel)) ggL_law_L_early
set_option maxRecDepth 20000 in
theorem ggL_law_L_errors : GoodIn wsL_law wsL_errors := goodIn_ca (goodIn_r _ [1217, 147, 1218, 1219, 1220, 2, 1221, 21, 41, 29, 33, 1222, 420, 421, 422, 423, 154, 155, 156, 157, 158, 159, 160, 161, 1223, 1224, 1225, 20, 1226, 55, 50, 430, 54, 1227, 435, 436, 437, 438, 439, 440, 441, 53, 442, 443, 444, 445, 446, 447, 448, 449, 204, 450, 451, 452, 453, 454, 65, 66, 67, 62, 63, 455, 456, 457, 61, 458, 459, 460, 461, 462, 72, 71, 463, 73, 464, 465, 466, 467, 468, 469, 470, 471, 472, 473, 474, 475, 476, 477, 396, 478, 479, 480, 481, 482, 483, 484, 6, 485, 293, 294, 486, 487, 488, 489, 490, 491, 492, 493, 494, 287, 288, 1228, 1229, 1230, 1231, 1232, 560, 511, 512, 513, 1233, 1234, 1235, 40, 1236, 110, 1237, 851, 852, 853, 112, 107, 1238, 1239, 1240, 28, 1241, 87, 85, 86, 982, 1043, 1242, 83, 983, 1059, 1024, 1025, 1026, 1027, 988, 989, 984, 985, 986, 987, 1061, 991, 496, 497, 498, 64, 499, 500, 501, 502, 503, 1243, 1244, 1245, 1246, 32, 1247, 92, 1115, 1108, 1109, 1110, 91, 1248, 1112, 1113, 1114, 1294, 1295, 1296, 1297, 1298, 1299, 1300, 1301, 1315, 1316, 1317, 1336, 1337, 1338, 1339, 1340, 1341, 1342, 1343, 1344, 1328, 1329, 1330, 1331, 1332, 1333, 1334, 1335, 1319, 1320, 1321, 1322, 1323, 1324] (by decide +kernel) (by decide +kernel)) (goodIn_sub (fun _ h => List.mem_append_left _ (List.mem_append_left _ (List.mem_append_right _ h))) (by decide +kernel))
set_option maxRecDepth 20000 in
theorem gL_law_L_errors : GoodIn wsL_law (va_wsS RL 252 yL_errors wsL_errors) := goodIn_app (goodIn_of _ (by decide +kernel)) ggL_law_L_errors
set_option maxRecDepth 20000 in
theorem ggL_law_L_holiday : GoodIn wsL_law wsL_holiday := goodIn_ca (goodIn_ca (goodIn_r _ [748, 147, 189, 749, 750, 751, 2, 752, 41, 753, 42, 17, 754, 755, 756, 757, 584, 213, 214, 215, 216, 154, 155, 156, 157, 158, 159, 160, 161, 758, 759, 760, 40, 761, 110, 111, 102, 103, 105, 762, 763, 764, 765, 624, 625, 626, 627, 112, 628, 107, 629, 630, 631, 632, 109, 633, 634, 440, 441, 53, 442, 443, 444, 445, 446, 447, 448, 449, 204, 450, 451, 452, 453, 454, 65, 66, 67, 62, 63, 455, 456, 457, 61, 458, 459, 460, 461, 462, 72, 71, 463, 73, 635, 465, 466, 467, 468, 469, 470, 471, 472, 473, 474, 475, 476, 477, 396, 478, 479, 480, 481, 482, 483, 484, 6, 485, 293, 294, 486, 487, 488, 489, 490, 491, 492, 493, 494, 287, 288, 636, 496, 497, 498, 64, 499, 500, 501, 502, 503, 637, 506, 507, 16, 508, 509, 221, 510, 511, 512, 513, 514, 515, 516, 517, 518, 519, 520, 521, 522, 523, 524, 525, 526, 527, 528, 529, 530, 531, 532, 533, 534, 206, 207, 208, 209, 210, 211, 212, 46, 217, 218, 219, 220, 638, 199, 200, 201, 202, 203, 205, 639, 640, 641, 642, 643, 644, 645, 646, 647, 648, 649, 1294, 1295, 1296, 1297, 1298, 1299, 1300, 1301, 1328, 1329, 1330, 1331, 1332, 1333, 1334, 1335, 1336, 1337, 1338, 1339, 1340, 1341, 1342, 1343, 1344, 1314] (by decide +kernel) (by decide +kernel)) (goodIn_sub (fun _ h => List.mem_append_left _ (List.mem_append_right _ h)) (by decide +kernel))) (goodIn_sub (fun _ h => List.mem_append_left _ (List.mem_append_left _ (List.mem_append_right _ h))) (by decide +kernel))
set_option maxRecDepth 20000 in
theorem gL_law_L_holiday : GoodIn wsL_law (va_wsS RL 177 yL_holiday wsL_holiday) := goodIn_app (goodIn_of _ (by decide +kernel)) ggL_law_L_holiday
set_option maxRecDepth 20000 in
theorem ggL_law_L_lifeWorth : GoodIn wsL_law wsL_lifeWorth := goodIn_ca (goodIn_ca (goodIn_ca (goodIn_r _ [969, 147, 828, 189, 970, 971, 972, 2, 973, 29, 17, 974, 975, 976, 977, 340, 940, 154, 155, 156, 157, 158, 159, 160, 161, 420, 421, 422, 423, 833, 834, 835, 836, 837, 978, 979, 980, 28, 981, 85, 982, 83, 983, 984, 985, 986, 987, 87, 988, 440, 441, 53, 442, 443, 444, 445, 446, 447, 448, 449, 204, 450, 451, 452, 453, 454, 65, 66, 67, 62, 63, 455, 456, 457, 61, 458, 459, 460, 461, 462, 72, 71, 463, 73, 989, 465, 466, 467, 468, 469, 470, 471, 472, 473, 474, 475, 476, 477, 396, 478, 479, 480, 481, 482, 483, 484, 6, 485, 293, 294, 486, 487, 488, 489, 490, 491, 492, 493, 494, 287, 288, 990, 991, 496, 497, 498, 64, 499, 500, 501, 502, 503, 992, 506, 507, 16, 508, 509, 221, 510, 511, 512, 513, 514, 515, 516, 517, 518, 519, 520, 521, 522, 523, 524, 525, 526, 527, 528, 529, 530, 531, 532, 533, 534, 206, 207, 208, 209, 210, 211, 212, 46, 213, 214, 215, 216, 217, 218, 219, 220, 1294, 1295, 1296, 1297, 1298, 1299, 1300, 1301, 1319, 1320, 1321, 1322, 1336, 1337, 1338, 1339, 1340, 1341, 1342, 1343, 1344, 1314] (by decide +kernel) (by decide +kernel)) (goodIn_sub (fun _ h => List.mem_append_left _ (List.mem_append_left _ (List.mem_append_right _ h))) (by decide +kernel))) (goodIn_sub (fun _ h => List.mem_append_right _ h) (by decide +kernel))) (goodIn_sub (fun _ h => List.mem_append_left _ (List.mem_append_right _ h)) (by decide +kernel))
set_option maxRecDepth 20000 in
theorem gL_law_L_lifeWorth : GoodIn wsL_law (va_wsS RL 213 yL_lifeWorth wsL_lifeWorth) := goodIn_app (goodIn_of _ (by decide +kernel)) ggL_law_L_lifeWorth
set_option maxRecDepth 20000 in
theorem ggL_law_L_live : GoodIn wsL_law wsL_live := goodIn_ca (goodIn_ca (goodIn_r _ [935, 147, 189, 936, 937, 938, 2, 939, 29, 940, 941, 942, 943, 28, 944, 87, 945, 83, 154, 155, 156, 157, 158, 159, 160, 161, 584, 213, 214, 215, 216, 946, 947, 948, 949, 1294, 1295, 1296, 1297, 1298, 1299, 1300, 1301, 1319, 1320, 1321, 1322] (by decide +kernel) (by decide +kernel)) (goodIn_sub (fun _ h => List.mem_append_left _ (List.mem_append_left _ (List.mem_append_right _ h))) (by decide +kernel))) (goodIn_sub (fun _ h => List.mem_append_left _ (List.mem_append_right _ h)) (by decide +kernel))
set_option maxRecDepth 20000 in
theorem gL_law_L_live : GoodIn wsL_law (va_wsS RL 206 yL_live wsL_live) := goodIn_app (goodIn_of _ (by decide +kernel)) ggL_law_L_live
set_option maxRecDepth 20000 in
theorem ggL_law_L_part : GoodIn wsL_law wsL_part := goodIn_ca (goodIn_ca (goodIn_r _ [1102, 147, 828, 1103, 1104, 1105, 2, 1106, 195, 33, 1078, 154, 155, 156, 157, 158, 159, 160, 161, 833, 834, 835, 836, 837, 1107, 1108, 1109, 32, 1110, 92, 91, 1111, 1112, 1113, 1114, 1115, 1294, 1295, 1296, 1297, 1298, 1299, 1300, 1301, 1323, 1324] (by decide +kernel) (by decide +kernel)) (goodIn_sub (fun _ h => List.mem_append_left _ (List.mem_append_left _ (List.mem_append_right _ h))) (by decide +kernel))) (goodIn_sub (fun _ h => List.mem_append_right _ h) (by decide +kernel))
set_option maxRecDepth 20000 in
theorem gL_law_L_part : GoodIn wsL_law (va_wsS RL 234 yL_part wsL_part) := goodIn_app (goodIn_of _ (by decide +kernel)) ggL_law_L_part
set_option maxRecDepth 20000 in
theorem ggL_law_L_pay : GoodIn wsL_law wsL_pay := goodIn_ca (goodIn_ca (goodIn_r _ [333, 147, 189, 334, 335, 336, 2, 337, 338, 339, 340, 21, 154, 155, 156, 157, 158, 159, 160, 161, 341, 342, 343, 20, 344, 50, 345, 346, 213, 214, 215, 216, 347, 348, 349, 350, 1294, 1295, 1296, 1297, 1298, 1299, 1300, 1301, 1315, 1316, 1317] (by decide +kernel) (by decide +kernel)) (goodIn_sub (fun _ h => List.mem_append_left _ (List.mem_append_left _ (List.mem_append_right _ h))) (by decide +kernel))) (goodIn_sub (fun _ h => List.mem_append_left _ (List.mem_append_right _ h)) (by decide +kernel))
set_option maxRecDepth 20000 in
theorem gL_law_L_pay : GoodIn wsL_law (va_wsS RL 143 yL_pay wsL_pay) := goodIn_app (goodIn_of _ (by decide +kernel)) ggL_law_L_pay
set_option maxRecDepth 20000 in
theorem ggL_law_L_payMany : GoodIn wsL_law wsL_payMany := goodIn_ca (goodIn_ca (goodIn_r _ [363, 147, 189, 364, 365, 366, 2, 367, 338, 368, 339, 340, 369, 370, 21, 154, 155, 156, 157, 158, 159, 160, 161, 341, 342, 343, 20, 344, 50, 345, 346, 213, 214, 215, 216, 371, 372, 373, 374, 1294, 1295, 1296, 1297, 1298, 1299, 1300, 1301, 1315, 1316, 1317] (by decide +kernel) (by decide +kernel)) (goodIn_sub (fun _ h => List.mem_append_left _ (List.mem_append_left _ (List.mem_append_right _ h))) (by decide +kernel))) (goodIn_sub (fun _ h => List.mem_append_left _ (List.mem_append_right _ h)) (by decide +kernel))
set_option maxRecDepth 20000 in
theorem gL_law_L_payMany : GoodIn wsL_law (va_wsS RL 147 yL_payMany wsL_payMany) := goodIn_app (goodIn_of _ (by decide +kernel)) ggL_law_L_payMany
set_option maxRecDepth 20000 in
theorem ggL_law_L_premium : GoodIn wsL_law wsL_premium := goodIn_ca (goodIn_ca (goodIn_ca (goodIn_r _ [1034, 147, 828, 189, 1035, 1036, 1037, 2, 1038, 29, 17, 974, 975, 976, 977, 340, 940, 154, 155, 156, 157, 158, 159, 160, 161, 420, 421, 422, 423, 833, 834, 835, 836, 837, 1039, 1040, 1041, 28, 1042, 85, 86, 982, 1043, 1024, 1025, 1026, 1027, 87, 83, 988, 440, 441, 53, 442, 443, 444, 445, 446, 447, 448, 449, 204, 450, 451, 452, 453, 454, 65, 66, 67, 62, 63, 455, 456, 457, 61, 458, 459, 460, 461, 462, 72, 71, 463, 73, 989, 465, 466, 467, 468, 469, 470, 471, 472, 473, 474, 475, 476, 477, 396, 478, 479, 480, 481, 482, 483, 484, 6, 485, 293, 294, 486, 487, 488, 489, 490, 491, 492, 493, 494, 287, 288, 984, 985, 986, 987, 990, 992, 506, 507, 16, 508, 509, 221, 510, 511, 512, 513, 514, 515, 516, 517, 518, 519, 520, 521, 522, 523, 524, 525, 526, 527, 528, 503, 529, 530, 531, 532, 533, 534, 206, 207, 208, 209, 210, 211, 212, 46, 213, 214, 215, 216, 217, 218, 219, 220, 1294, 1295, 1296, 1297, 1298, 1299, 1300, 1301, 1319, 1320, 1321, 1322, 1336, 1337, 1338, 1339, 1340, 1341, 1342, 1343, 1344, 1314] (by decide +kernel) (by decide +kernel)) (goodIn_sub (fun _ h => List.mem_append_left _ (List.mem_append_left _ (List.mem_append_right _ h))) (by decide +kernel))) (goodIn_sub (fun _ h => List.mem_append_right _ h) (by decide +kernel))) (goodIn_sub (fun _ h => List.mem_append_left _ (List.mem_append_right _ h)) (by decide +kernel))
set_option maxRecDepth 20000 in
theorem gL_law_L_premium : GoodIn wsL_law (va_wsS RL 220 yL_premium wsL_premium) := goodIn_app (goodIn_of _ (by decide +kernel)) ggL_law_L_premium
set_option maxRecDepth 20000 in
theorem ggL_law_L_price : GoodIn wsL_law wsL_price := goodIn_ca (goodIn_ca (goodIn_r _ [865, 147, 189, 866, 867, 868, 2, 869, 25, 17, 870, 871, 872, 340, 338, 154, 155, 156, 157, 158, 159, 160, 161, 420, 421, 422, 423, 873, 874, 875, 24, 876, 78, 877, 878, 879, 880, 881, 882, 440, 441, 53, 442, 443, 444, 445, 446, 447, 448, 449, 204, 450, 451, 452, 453, 454, 65, 66, 67, 62, 63, 455, 456, 457, 61, 458, 459, 460, 461, 462, 72, 71, 463, 73, 883, 465, 466, 467, 468, 469, 470, 471, 472, 473, 474, 475, 476, 477, 396, 478, 479, 480, 481, 482, 483, 484, 6, 485, 293, 294, 486, 487, 488, 489, 490, 491, 492, 493, 494, 287, 288, 884, 496, 497, 498, 64, 499, 500, 501, 502, 503, 885, 506, 507, 16, 508, 509, 221, 510, 511, 512, 513, 514, 515, 516, 517, 518, 519, 520, 521, 522, 523, 524, 525, 526, 527, 528, 529, 530, 531, 532, 533, 534, 206, 207, 208, 209, 210, 211, 212, 46, 213, 214, 215, 216, 217, 218, 219, 220, 1294, 1295, 1296, 1297, 1298, 1299, 1300, 1301, 1318, 1336, 1337, 1338, 1339, 1340, 1341, 1342, 1343, 1344, 1314] (by decide +kernel) (by decide +kernel)) (goodIn_sub (fun _ h => List.mem_append_left _ (List.mem_append_left _ (List.mem_append_right _ h))) (by decide +kernel))) (goodIn_sub (fun _ h => List.mem_append_left _ (List.mem_append_right _ h)) (by decide +kernel))
set_option maxRecDepth 20000 in
theorem gL_law_L_price : GoodIn wsL_law (va_wsS RL 195 yL_price wsL_price) := goodIn_app (goodIn_of _ (by decide +kernel)) ggL_law_L_price
set_option maxRecDepth 20000 in
theorem ggL_law_L_reserve : GoodIn wsL_law wsL_reserve := goodIn_ca (goodIn_ca (goodIn_ca (goodIn_r _ [1050, 147, 828, 189, 1051, 1052, 1053, 2, 1054, 29, 940, 17, 157, 158, 159, 160, 161, 974, 975, 976, 977, 340, 154, 155, 156, 420, 421, 422, 423, 833, 834, 835, 836, 837, 1055, 1056, 1057, 28, 1058, 85, 86, 982, 83, 1043, 1059, 984, 985, 986, 987, 87, 988, 440, 441, 53, 442, 443, 444, 445, 446, 447, 448, 449, 204, 450, 451, 452, 453, 454, 65, 66, 67, 62, 63, 455, 456, 457, 61, 458, 459, 460, 461, 462, 72, 71, 463, 73, 989, 465, 466, 467, 468, 469, 470, 471, 472, 473, 474, 475, 476, 477, 396, 478, 479, 480, 481, 482, 483, 484, 6, 485, 293, 294, 486, 487, 488, 489, 490, 491, 492, 493, 494, 287, 288, 990, 1060, 500, 501, 502, 503, 1061, 992, 506, 507, 16, 508, 509, 221, 510, 511, 512, 513, 514, 515, 516, 517, 518, 519, 520, 521, 522, 523, 524, 525, 526, 527, 528, 529, 530, 531, 532, 533, 534, 206, 207, 208, 209, 210, 211, 212, 46, 213, 214, 215, 216, 217, 218, 219, 220, 1294, 1295, 1296, 1297, 1298, 1299, 1300, 1301, 1319, 1320, 1321, 1322, 1336, 1337, 1338, 1339, 1340, 1341, 1342, 1343, 1344, 1314] (by decide +kernel) (by decide +kernel)) (goodIn_sub (fun _ h => List.mem_append_left _ (List.mem_append_left _ (List.mem_append_right _ h))) (by decide +kernel))) (goodIn_sub (fun _ h => List.mem_append_right _ h) (by decide +kernel))) (goodIn_sub (fun _ h => List.mem_append_left _ (List.mem_append_right _ h)) (by decide +kernel))
set_option maxRecDepth 20000 in
theorem gL_law_L_reserve : GoodIn wsL_law (va_wsS RL 223 yL_reserve wsL_reserve) := goodIn_app (goodIn_of _ (by decide +kernel)) ggL_law_L_reserve
set_option maxRecDepth 20000 in
theorem ggL_law_L_round : GoodIn wsL_law wsL_round := goodIn_ca (goodIn_ca (goodIn_r _ [188, 147, 189, 190, 191, 192, 2, 193, 194, 195, 196, 197, 17, 154, 155, 156, 157, 158, 159, 160, 161, 198, 199, 200, 16, 201, 202, 203, 204, 205, 206, 207, 208, 209, 210, 211, 212, 46, 213, 214, 215, 216, 217, 218, 219, 220, 221, 1294, 1295, 1296, 1297, 1298, 1299, 1300, 1301, 1314] (by decide +kernel) (by decide +kernel)) (goodIn_sub (fun _ h => List.mem_append_left _ (List.mem_append_left _ (List.mem_append_right _ h))) (by decide +kernel))) (goodIn_sub (fun _ h => List.mem_append_left _ (List.mem_append_right _ h)) (by decide +kernel))
set_option maxRecDepth 20000 in
theorem gL_law_L_round : GoodIn wsL_law (va_wsS RL 139 yL_round wsL_round) := goodIn_app (goodIn_of _ (by decide +kernel)) ggL_law_L_round
set_option maxRecDepth 20000 in
theorem ggL_law_L_rowOf : GoodIn wsL_law wsL_rowOf := goodIn_ca (goodIn_ca (goodIn_ca (goodIn_r _ [827, 147, 828, 189, 829, 830, 831, 2, 832, 196, 41, 786, 754, 755, 756, 757, 753, 584, 213, 214, 215, 216, 154, 155, 156, 157, 158, 159, 160, 161, 833, 834, 835, 836, 837, 650, 651, 652, 40, 653, 107, 1294, 1295, 1296, 1297, 1298, 1299, 1300, 1301, 1328, 1329, 1330, 1331, 1332, 1333, 1334, 1335] (by decide +kernel) (by decide +kernel)) (goodIn_sub (fun _ h => List.mem_append_left _ (List.mem_append_right _ h)) (by decide +kernel))) (goodIn_sub (fun _ h => List.mem_append_left _ (List.mem_append_left _ (List.mem_append_right _ h))) (by decide +kernel))) (goodIn_sub (fun _ h => List.mem_append_right _ h) (by decide +kernel))
set_option maxRecDepth 20000 in
theorem gL_law_L_rowOf : GoodIn wsL_law (va_wsS RL 189 yL_rowOf wsL_rowOf) := goodIn_app (goodIn_of _ (by decide +kernel)) ggL_law_L_rowOf
set_option maxRecDepth 20000 in
theorem ggL_law_L_rowYield : GoodIn wsL_law wsL_rowYield := goodIn_ca (goodIn_r _ [579, 189, 580, 581, 582, 2, 583, 21, 569, 570, 571, 20, 572, 50, 584, 213, 214, 215, 216, 585, 586, 587, 588, 589, 590, 591, 592, 593, 594, 557, 558, 559, 54, 430, 431, 432, 433, 434, 435, 436, 437, 438, 439, 440, 441, 53, 442, 443, 444, 445, 446, 447, 448, 449, 204, 450, 451, 452, 453, 454, 65, 66, 67, 62, 63, 455, 456, 457, 61, 458, 459, 460, 461, 462, 72, 71, 463, 73, 464, 465, 466, 467, 468, 469, 470, 471, 472, 473, 474, 475, 476, 477, 396, 478, 479, 480, 481, 482, 483, 484, 6, 485, 293, 294, 486, 487, 488, 489, 490, 491, 492, 493, 494, 287, 288, 560, 511, 512, 513, 1294, 1295, 1296, 1297, 1298, 1299, 1300, 1301, 1315, 1316, 1317, 1336, 1337, 1338, 1339, 1340, 1341, 1342, 1343, 1344] (by decide +kernel) (by decide +kernel)) (goodIn_sub (fun _ h => List.mem_append_left _ (List.mem_append_right _ h)) (by decide +kernel))
set_option maxRecDepth 20000 in
theorem gL_law_L_rowYield : GoodIn wsL_law (va_wsS RL 169 yL_rowYield wsL_rowYield) := goodIn_app (goodIn_of _ (by decide +kernel)) ggL_law_L_rowYield
set_option maxRecDepth 20000 in
theorem ggL_law_L_rows : GoodIn wsL_law wsL_rows := goodIn_ca (goodIn_r _ [816, 189, 817, 818, 819, 2, 820, 41, 786, 754, 755, 756, 757, 753, 584, 213, 214, 215, 216, 1294, 1295, 1296, 1297, 1298, 1299, 1300, 1301, 1328, 1329, 1330, 1331, 1332, 1333, 1334, 1335] (by decide +kernel) (by decide +kernel)) (goodIn_sub (fun _ h => List.mem_append_left _ (List.mem_append_right _ h)) (by decide +kernel))
set_option maxRecDepth 20000 in
theorem gL_law_L_rows : GoodIn wsL_law (va_wsS RL 186 yL_rows wsL_rows) := goodIn_app (goodIn_of _ (by decide +kernel)) ggL_law_L_rows
set_option maxRecDepth 20000 in
theorem ggL_law_L_setMode : GoodIn wsL_law wsL_setMode := goodIn_ca (goodIn_r _ [146, 147, 148, 149, 150, 2, 151, 152, 17, 153, 154, 155, 156, 157, 158, 159, 160, 161, 1294, 1295, 1296, 1297, 1298, 1299, 1300, 1301, 1314] (by decide +kernel) (by decide +kernel)) (goodIn_sub (fun _ h => List.mem_append_left _ (List.mem_append_left _ (List.mem_append_right _ h))) (by decide +kernel))
set_option maxRecDepth 20000 in
theorem gL_law_L_setMode : GoodIn wsL_law (va_wsS RL 124 yL_setMode wsL_setMode) := goodIn_app (goodIn_of _ (by decide +kernel)) ggL_law_L_setMode
set_option maxRecDepth 20000 in
theorem ggL_law_L_signAt : GoodIn wsL_law wsL_signAt := goodIn_ca (goodIn_r _ [551, 147, 552, 553, 554, 2, 555, 21, 420, 421, 422, 423, 154, 155, 156, 157, 158, 159, 160, 161, 556, 557, 558, 20, 559, 54, 430, 431, 432, 433, 434, 50, 435, 436, 437, 438, 439, 440, 441, 53, 442, 443, 444, 445, 446, 447, 448, 449, 204, 450, 451, 452, 453, 454, 65, 66, 67, 62, 63, 455, 456, 457, 61, 458, 459, 460, 461, 462, 72, 71, 463, 73, 464, 465, 466, 467, 468, 469, 470, 471, 472, 473, 474, 475, 476, 477, 396, 478, 479, 480, 481, 482, 483, 484, 6, 485, 293, 294, 486, 487, 488, 489, 490, 491, 492, 493, 494, 287, 288, 560, 511, 512, 513, 1294, 1295, 1296, 1297, 1298, 1299, 1300, 1301, 1315, 1316, 1317, 1336, 1337, 1338, 1339, 1340, 1341, 1342, 1343, 1344] (by decide +kernel) (by decide +kernel)) (goodIn_sub (fun _ h => List.mem_append_left _ (List.mem_append_left _ (List.mem_append_right _ h))) (by decide +kernel))
set_option maxRecDepth 20000 in
theorem gL_law_L_signAt : GoodIn wsL_law (va_wsS RL 162 yL_signAt wsL_signAt) := goodIn_app (goodIn_of _ (by decide +kernel)) ggL_law_L_signAt
set_option maxRecDepth 20000 in
theorem ggL_law_L_step : GoodIn wsL_law wsL_step := goodIn_ca (goodIn_ca (goodIn_r _ [1131, 147, 189, 1132, 1133, 1134, 2, 1135, 37, 340, 1136, 1137, 1138, 1139, 1140, 36, 1141, 98, 96, 154, 155, 156, 157, 158, 159, 160, 161, 584, 213, 214, 215, 216, 1142, 1143, 1144, 1145, 97, 1294, 1295, 1296, 1297, 1298, 1299, 1300, 1301, 1325, 1326, 1327] (by decide +kernel) (by decide +kernel)) (goodIn_sub (fun _ h => List.mem_append_left _ (List.mem_append_left _ (List.mem_append_right _ h))) (by decide +kernel))) (goodIn_sub (fun _ h => List.mem_append_left _ (List.mem_append_right _ h)) (by decide +kernel))
set_option maxRecDepth 20000 in
theorem gL_law_L_step : GoodIn wsL_law (va_wsS RL 238 yL_step wsL_step) := goodIn_app (goodIn_of _ (by decide +kernel)) ggL_law_L_step
set_option maxRecDepth 20000 in
theorem ggL_law_L_tax : GoodIn wsL_law wsL_tax := goodIn_ca (goodIn_ca (goodIn_r _ [1166, 147, 189, 1167, 1168, 1169, 2, 1170, 195, 17, 37, 1136, 154, 155, 156, 157, 158, 159, 160, 161, 1171, 1172, 1173, 36, 1174, 98, 96, 1175, 644, 204, 645, 1176, 449, 450, 97, 198, 199, 200, 16, 201, 202, 203, 205, 206, 207, 208, 209, 210, 211, 212, 46, 213, 214, 215, 216, 217, 218, 219, 220, 221, 1294, 1295, 1296, 1297, 1298, 1299, 1300, 1301, 1325, 1326, 1327, 1314] (by decide +kernel) (by decide +kernel)) (goodIn_sub (fun _ h => List.mem_append_left _ (List.mem_append_left _ (List.mem_append_right _ h))) (by decide +kernel))) (goodIn_sub (fun _ h => List.mem_append_left _ (List.mem_append_right _ h)) (by decide +kernel))
set_option maxRecDepth 20000 in
theorem gL_law_L_tax : GoodIn wsL_law (va_wsS RL 245 yL_tax wsL_tax) := goodIn_app (goodIn_of _ (by decide +kernel)) ggL_law_L_tax
set_option maxRecDepth 20000 in
theorem ggL_law_L_total : GoodIn wsL_law wsL_total := goodIn_ca (goodIn_ca (goodIn_r _ [844, 147, 189, 845, 846, 847, 2, 848, 849, 41, 754, 755, 756, 757, 753, 584, 213, 214, 215, 216, 154, 155, 156, 157, 158, 159, 160, 161, 850, 851, 852, 40, 853, 112, 107, 1294, 1295, 1296, 1297, 1298, 1299, 1300, 1301, 1328, 1329, 1330, 1331, 1332, 1333, 1334, 1335] (by decide +kernel) (by decide +kernel)) (goodIn_sub (fun _ h => List.mem_append_left _ (List.mem_append_right _ h)) (by decide +kernel))) (goodIn_sub (fun _ h => List.mem_append_left _ (List.mem_append_left _ (List.mem_append_right _ h))) (by decide +kernel))
set_option maxRecDepth 20000 in
theorem gL_law_L_total : GoodIn wsL_law (va_wsS RL 192 yL_total wsL_total) := goodIn_app (goodIn_of _ (by decide +kernel)) ggL_law_L_total
set_option maxRecDepth 20000 in
theorem ggL_law_L_untaxed : GoodIn wsL_law wsL_untaxed := goodIn_ca (goodIn_r _ [1188, 147, 1189, 1190, 1191, 2, 1192, 340, 37, 154, 155, 156, 157, 158, 159, 160, 161, 1193, 1194, 1195, 36, 1196, 1197, 1198, 1199, 1200, 1201, 1202, 1203, 1204, 1205, 1206, 1172, 1173, 1174, 98, 96, 1175, 644, 204, 645, 1176, 449, 450, 97, 1294, 1295, 1296, 1297, 1298, 1299, 1300, 1301, 1325, 1326, 1327] (by decide +kernel) (by decide +kernel)) (goodIn_sub (fun _ h => List.mem_append_left _ (List.mem_append_left _ (List.mem_append_right _ h))) (by decide +kernel))
set_option maxRecDepth 20000 in
theorem gL_law_L_untaxed : GoodIn wsL_law (va_wsS RL 249 yL_untaxed wsL_untaxed) := goodIn_app (goodIn_of _ (by decide +kernel)) ggL_law_L_untaxed
set_option maxRecDepth 20000 in
theorem ggL_law_L_weigh : GoodIn wsL_law wsL_weigh := goodIn_ca (goodIn_ca (goodIn_r _ [1073, 147, 189, 1074, 1075, 1076, 2, 1077, 370, 33, 1078, 154, 155, 156, 157, 158, 159, 160, 161, 584, 213, 214, 215, 216, 1079, 1080, 1081, 32, 1082, 91, 92, 1294, 1295, 1296, 1297, 1298, 1299, 1300, 1301, 1323, 1324] (by decide +kernel) (by decide +kernel)) (goodIn_sub (fun _ h => List.mem_append_left _ (List.mem_append_left _ (List.mem_append_right _ h))) (by decide +kernel))) (goodIn_sub (fun _ h => List.mem_append_left _ (List.mem_append_right _ h)) (by decide +kernel))
set_option maxRecDepth 20000 in
theorem gL_law_L_weigh : GoodIn wsL_law (va_wsS RL 227 yL_weigh wsL_weigh) := goodIn_app (goodIn_of _ (by decide +kernel)) ggL_law_L_weigh
set_option maxRecDepth 20000 in
theorem ggL_law_L_worth : GoodIn wsL_law wsL_worth := goodIn_ca (goodIn_ca (goodIn_r _ [415, 147, 189, 416, 417, 418, 2, 419, 338, 21, 17, 154, 155, 156, 157, 158, 159, 160, 161, 420, 421, 422, 423, 424, 425, 426, 20, 427, 428, 287, 204, 288, 54, 429, 430, 431, 432, 433, 434, 50, 435, 436, 437, 438, 439, 440, 441, 53, 442, 443, 444, 445, 446, 447, 448, 449, 450, 451, 452, 453, 454, 65, 66, 67, 62, 63, 455, 456, 457, 61, 458, 459, 460, 461, 462, 72, 71, 463, 73, 464, 465, 466, 467, 468, 469, 470, 471, 472, 473, 474, 475, 476, 477, 396, 478, 479, 480, 481, 482, 483, 484, 6, 485, 293, 294, 486, 487, 488, 489, 490, 491, 492, 493, 494, 495, 496, 497, 498, 64, 499, 500, 501, 502, 503, 504, 505, 506, 507, 16, 508, 509, 221, 510, 511, 512, 513, 514, 515, 516, 517, 518, 519, 520, 521, 522, 523, 524, 525, 526, 527, 528, 529, 530, 531, 532, 533, 534, 206, 207, 208, 209, 210, 211, 212, 46, 213, 214, 215, 216, 217, 218, 219, 220, 1294, 1295, 1296, 1297, 1298, 1299, 1300, 1301, 1315, 1316, 1317, 1336, 1337, 1338, 1339, 1340, 1341, 1342, 1343, 1344, 1314] (by decide +kernel) (by decide +kernel)) (goodIn_sub (fun _ h => List.mem_append_left _ (List.mem_append_left _ (List.mem_append_right _ h))) (by decide +kernel))) (goodIn_sub (fun _ h => List.mem_append_left _ (List.mem_append_right _ h)) (by decide +kernel))
set_option maxRecDepth 20000 in
theorem gL_law_L_worth : GoodIn wsL_law (va_wsS RL 158 yL_worth wsL_worth) := goodIn_app (goodIn_of _ (by decide +kernel)) ggL_law_L_worth
set_option maxRecDepth 20000 in
theorem ggL_law_X12_accrued : GoodIn wsL_law wsX12_accrued := goodIn_r _ [931, 360, 932, 167, 168, 5, 169, 230, 231, 232, 233, 82, 234, 235, 203, 204, 205, 236, 237, 238, 239, 240, 241, 12, 13, 242, 243, 247, 248, 249, 250, 251, 252, 253, 254, 255, 256, 257, 258, 117, 259, 260, 261, 262, 263, 264, 265, 266, 267, 268, 269, 270, 271, 272, 273, 274, 275, 276, 277, 278, 279, 280, 281, 282, 283, 284, 285, 286, 287, 288, 289, 290, 291, 292, 293, 294, 295, 296, 297, 298, 299, 300, 301, 302, 303, 304, 305, 306, 307, 308, 309, 310, 311, 312, 313, 314, 315, 316, 317, 318, 319, 320, 321, 322, 170, 171, 172, 173, 127, 323, 324, 325, 326, 327, 328, 329, 330, 1348, 1349, 1302, 1303, 1304, 1305, 1306, 1307, 1308, 1309, 1310, 1311, 1312, 1313] (by decide +kernel) (by decide +kernel)
set_option maxRecDepth 20000 in
theorem gL_law_X12_accrued : GoodIn wsL_law (wsV RL 205 RX12 yX12_accrued wsX12_accrued) := goodIn_app (goodIn_of _ (by decide +kernel)) ggL_law_X12_accrued
set_option maxRecDepth 20000 in
theorem ggL_law_X12_amount : GoodIn wsL_law wsX12_amount := goodIn_r _ [412, 355, 118, 167, 168, 5, 169, 170, 171, 172, 173, 127, 1302, 1303, 1304, 1305, 1306, 1307, 1308, 1309, 1310, 1311, 1312, 1313] (by decide +kernel) (by decide +kernel)
set_option maxRecDepth 20000 in
theorem gL_law_X12_amount : GoodIn wsL_law (wsV RL 157 RX12 yX12_amount wsX12_amount) := goodIn_app (goodIn_of _ (by decide +kernel)) ggL_law_X12_amount
set_option maxRecDepth 20000 in
theorem ggL_law_X12_bondYield : GoodIn wsL_law wsX12_bondYield := goodIn_r _ [916, 227, 890, 891, 5, 892, 360, 355, 167, 168, 169, 170, 171, 172, 173, 127, 917, 918, 919, 539, 893, 894, 895, 548, 230, 231, 232, 233, 82, 234, 235, 203, 204, 205, 236, 237, 238, 239, 240, 241, 12, 13, 242, 243, 247, 248, 249, 250, 251, 252, 253, 254, 310, 311, 312, 313, 314, 315, 316, 286, 287, 288, 282, 283, 284, 285, 244, 245, 246, 683, 684, 685, 686, 264, 265, 266, 267, 687, 1302, 1303, 1304, 1305, 1306, 1307, 1308, 1309, 1310, 1311, 1312, 1313, 1348, 1349] (by decide +kernel) (by decide +kernel)
set_option maxRecDepth 20000 in
theorem gL_law_X12_bondYield : GoodIn wsL_law (wsV RL 202 RX12 yX12_bondYield wsX12_bondYield) := goodIn_app (goodIn_of _ (by decide +kernel)) ggL_law_X12_bondYield
set_option maxRecDepth 20000 in
theorem ggL_law_X12_change : GoodIn wsL_law wsX12_change := goodIn_r _ [794, 259, 662, 122, 770, 771, 772, 5, 773, 127, 167, 168, 169, 540, 541, 542, 543, 170, 171, 172, 173, 774, 775, 776, 777, 674, 675, 676, 677, 119, 120, 121, 539, 678, 644, 204, 645, 6, 128, 129, 130, 131, 132, 133, 134, 135, 136, 137, 138, 139, 140, 141, 142, 12, 13, 679, 680, 681, 682, 230, 231, 232, 233, 82, 234, 235, 203, 205, 236, 237, 238, 239, 240, 241, 242, 243, 255, 256, 257, 258, 117, 260, 261, 262, 263, 264, 265, 266, 267, 268, 269, 270, 271, 272, 273, 274, 275, 276, 277, 278, 279, 280, 281, 282, 283, 284, 285, 286, 287, 288, 251, 252, 253, 254, 289, 290, 291, 292, 293, 294, 295, 248, 249, 250, 296, 297, 298, 299, 300, 301, 302, 303, 304, 305, 306, 307, 308, 309, 310, 311, 312, 313, 314, 315, 316, 317, 318, 319, 320, 321, 322, 244, 245, 246, 247, 683, 684, 685, 686, 687, 327, 328, 329, 330, 688, 689, 690, 691, 692, 693, 694, 695, 696, 697, 698, 699, 700, 701, 702, 703, 704, 705, 706, 707, 708, 709, 710, 711, 712, 713, 714, 715, 716, 717, 718, 719, 396, 720, 721, 722, 723, 724, 725, 726, 727, 728, 729, 485, 486, 487, 488, 489, 795, 796, 797, 798, 1302, 1303, 1304, 1305, 1306, 1307, 1308, 1309, 1310, 1311, 1312, 1313, 1350, 1351, 1352, 1353, 1354, 1355, 1345, 1346, 1347, 1348, 1349] (by decide +kernel) (by decide +kernel)
set_option maxRecDepth 20000 in
theorem gL_law_X12_change : GoodIn wsL_law (wsV RL 182 RX12 yX12_change wsX12_change) := goodIn_app (goodIn_of _ (by decide +kernel)) ggL_law_X12_change
set_option maxRecDepth 20000 in
theorem ggL_law_X12_changes : GoodIn wsL_law wsX12_changes := goodIn_r _ [576, 127, 118, 1302, 1303, 1304, 1305, 1306, 1307, 1308, 1309, 1310, 1311, 1312, 1313] (by decide +kernel) (by decide +kernel)
set_option maxRecDepth 20000 in
theorem gL_law_X12_changes : GoodIn wsL_law (wsV RL 168 RX12 yX12_changes wsX12_changes) := goodIn_app (goodIn_of _ (by decide +kernel)) ggL_law_X12_changes
set_option maxRecDepth 20000 in
theorem ggL_law_X12_clearLives : GoodIn wsL_law wsX12_clearLives := goodIn_r _ [966, 127, 954, 1302, 1303, 1304, 1305, 1306, 1307, 1308, 1309, 1310, 1311, 1312, 1313] (by decide +kernel) (by decide +kernel)
set_option maxRecDepth 20000 in
theorem gL_law_X12_clearLives : GoodIn wsL_law (wsV RL 212 RX12 yX12_clearLives wsX12_clearLives) := goodIn_app (goodIn_of _ (by decide +kernel)) ggL_law_X12_clearLives
set_option maxRecDepth 20000 in
theorem ggL_law_X12_clearRow : GoodIn wsL_law wsX12_clearRow := goodIn_r _ [401, 127, 118, 382, 383, 384, 5, 385, 1302, 1303, 1304, 1305, 1306, 1307, 1308, 1309, 1310, 1311, 1312, 1313] (by decide +kernel) (by decide +kernel)
set_option maxRecDepth 20000 in
theorem gL_law_X12_clearRow : GoodIn wsL_law (wsV RL 154 RX12 yX12_clearRow wsX12_clearRow) := goodIn_app (goodIn_of _ (by decide +kernel)) ggL_law_X12_clearRow
set_option maxRecDepth 20000 in
theorem ggL_law_X12_clearSteps : GoodIn wsL_law wsX12_clearSteps := goodIn_r _ [1163, 127, 1150, 1302, 1303, 1304, 1305, 1306, 1307, 1308, 1309, 1310, 1311, 1312, 1313] (by decide +kernel) (by decide +kernel)
set_option maxRecDepth 20000 in
theorem gL_law_X12_clearSteps : GoodIn wsL_law (wsV RL 244 RX12 yX12_clearSteps wsX12_clearSteps) := goodIn_app (goodIn_of _ (by decide +kernel)) ggL_law_X12_clearSteps
set_option maxRecDepth 20000 in
theorem ggL_law_X12_clearWeights : GoodIn wsL_law wsX12_clearWeights := goodIn_r _ [1099, 127, 1087, 1302, 1303, 1304, 1305, 1306, 1307, 1308, 1309, 1310, 1311, 1312, 1313] (by decide +kernel) (by decide +kernel)
set_option maxRecDepth 20000 in
theorem gL_law_X12_clearWeights : GoodIn wsL_law (wsV RL 233 RX12 yX12_clearWeights wsX12_clearWeights) := goodIn_app (goodIn_of _ (by decide +kernel)) ggL_law_X12_clearWeights
set_option maxRecDepth 20000 in
theorem ggL_law_X12_deathWorth : GoodIn wsL_law wsX12_deathWorth := goodIn_r _ [1031, 997, 998, 999, 5, 1000, 360, 954, 539, 123, 167, 168, 169, 540, 541, 542, 543, 1001, 1002, 1003, 1004, 1005, 1006, 1007, 1008, 548, 1009, 1010, 1011, 1012, 244, 245, 246, 230, 231, 232, 233, 82, 234, 235, 203, 204, 205, 236, 237, 238, 239, 240, 241, 12, 13, 242, 243, 247, 248, 249, 250, 251, 252, 253, 254, 310, 311, 312, 313, 314, 315, 316, 286, 287, 288, 282, 283, 284, 285, 255, 256, 257, 258, 117, 259, 260, 261, 262, 263, 264, 265, 266, 267, 268, 269, 270, 271, 272, 273, 274, 275, 276, 277, 278, 279, 280, 281, 289, 290, 291, 292, 293, 294, 295, 296, 297, 298, 299, 300, 301, 302, 303, 304, 305, 306, 307, 308, 309, 317, 318, 319, 320, 321, 322, 170, 171, 172, 173, 127, 323, 324, 325, 326, 327, 328, 329, 330, 1302, 1303, 1304, 1305, 1306, 1307, 1308, 1309, 1310, 1311, 1312, 1313, 1348, 1349] (by decide +kernel) (by decide +kernel)
set_option maxRecDepth 20000 in
theorem gL_law_X12_deathWorth : GoodIn wsL_law (wsV RL 219 RX12 yX12_deathWorth wsX12_deathWorth) := goodIn_app (goodIn_of _ (by decide +kernel)) ggL_law_X12_deathWorth
set_option maxRecDepth 20000 in
theorem ggL_law_X12_early : GoodIn wsL_law wsX12_early := goodIn_r _ [813, 662, 360, 122, 770, 771, 772, 5, 773, 127, 167, 168, 169, 170, 171, 172, 173, 774, 775, 776, 777, 674, 675, 676, 677, 119, 120, 121, 539, 678, 644, 204, 645, 6, 128, 129, 130, 131, 132, 133, 134, 135, 136, 137, 138, 139, 140, 141, 142, 12, 13, 679, 680, 681, 682, 230, 231, 232, 233, 82, 234, 235, 203, 205, 236, 237, 238, 239, 240, 241, 242, 243, 255, 256, 257, 258, 117, 259, 260, 261, 262, 263, 264, 265, 266, 267, 268, 269, 270, 271, 272, 273, 274, 275, 276, 277, 278, 279, 280, 281, 282, 283, 284, 285, 286, 287, 288, 251, 252, 253, 254, 289, 290, 291, 292, 293, 294, 295, 248, 249, 250, 296, 297, 298, 299, 300, 301, 302, 303, 304, 305, 306, 307, 308, 309, 310, 311, 312, 313, 314, 315, 316, 317, 318, 319, 320, 321, 322, 244, 245, 246, 247, 683, 684, 685, 686, 687, 327, 328, 329, 330, 688, 689, 690, 691, 692, 693, 694, 695, 696, 697, 698, 699, 700, 701, 702, 703, 704, 705, 706, 707, 708, 709, 710, 711, 712, 713, 714, 715, 716, 717, 718, 719, 396, 720, 721, 722, 723, 724, 725, 726, 727, 728, 729, 485, 486, 487, 488, 489, 795, 796, 797, 798, 1302, 1303, 1304, 1305, 1306, 1307, 1308, 1309, 1310, 1311, 1312, 1313, 1350, 1351, 1352, 1353, 1354, 1355, 1345, 1346, 1347, 1348, 1349] (by decide +kernel) (by decide +kernel)
set_option maxRecDepth 20000 in
theorem gL_law_X12_early : GoodIn wsL_law (wsV RL 185 RX12 yX12_early wsX12_early) := goodIn_app (goodIn_of _ (by decide +kernel)) ggL_law_X12_early
set_option maxRecDepth 20000 in
theorem ggL_law_X12_errors : GoodIn wsL_law wsX12_errors := goodIn_r _ [1252, 1253, 1254, 1255, 5, 1256, 599, 574, 575, 576, 127, 118, 600, 601, 602, 603, 604, 605, 606, 607, 544, 545, 546, 547, 548, 539, 230, 231, 232, 233, 82, 234, 235, 203, 204, 205, 236, 237, 238, 239, 240, 241, 12, 13, 242, 243, 247, 248, 249, 250, 251, 252, 253, 254, 310, 311, 312, 313, 314, 315, 316, 286, 287, 288, 282, 283, 284, 285, 608, 609, 610, 611, 1257, 1258, 1259, 1260, 1261, 1087, 1120, 1121, 1122, 1123, 124, 1124, 1125, 1126, 1127, 6, 1128, 1262, 1263, 1264, 1265, 662, 122, 663, 795, 796, 797, 121, 798, 694, 730, 731, 732, 733, 734, 735, 736, 737, 738, 739, 740, 741, 742, 743, 744, 745, 132, 859, 860, 861, 862, 540, 541, 542, 543, 167, 168, 169, 170, 171, 172, 173, 1266, 1267, 1268, 1269, 954, 1066, 1067, 1068, 1069, 123, 1070, 1001, 1002, 1003, 1004, 1005, 1006, 1007, 1008, 1009, 1010, 1011, 1012, 244, 245, 246, 683, 684, 685, 686, 264, 265, 266, 267, 687, 1270, 1271, 1272, 1273, 1302, 1303, 1304, 1305, 1306, 1307, 1308, 1309, 1310, 1311, 1312, 1313, 1348, 1349, 1350, 1351, 1352, 1353, 1354, 1355, 1345, 1346, 1347] (by decide +kernel) (by decide +kernel)
set_option maxRecDepth 20000 in
theorem gL_law_X12_errors : GoodIn wsL_law (wsV RL 254 RX12 yX12_errors wsX12_errors) := goodIn_app (goodIn_of _ (by decide +kernel)) ggL_law_X12_errors
set_option maxRecDepth 20000 in
theorem ggL_law_X12_holiday : GoodIn wsL_law wsX12_holiday := goodIn_r _ [769, 662, 770, 771, 772, 5, 773, 127, 167, 168, 169, 170, 171, 172, 173, 774, 775, 776, 777, 122, 674, 675, 676, 677, 119, 120, 121, 539, 678, 644, 204, 645, 6, 128, 129, 130, 131, 132, 133, 134, 135, 136, 137, 138, 139, 140, 141, 142, 12, 13, 679, 680, 681, 682, 230, 231, 232, 233, 82, 234, 235, 203, 205, 236, 237, 238, 239, 240, 241, 242, 243, 255, 256, 257, 258, 117, 259, 260, 261, 262, 263, 264, 265, 266, 267, 268, 269, 270, 271, 272, 273, 274, 275, 276, 277, 278, 279, 280, 281, 282, 283, 284, 285, 286, 287, 288, 251, 252, 253, 254, 289, 290, 291, 292, 293, 294, 295, 248, 249, 250, 296, 297, 298, 299, 300, 301, 302, 303, 304, 305, 306, 307, 308, 309, 310, 311, 312, 313, 314, 315, 316, 317, 318, 319, 320, 321, 322, 244, 245, 246, 247, 683, 684, 685, 686, 687, 327, 328, 329, 330, 688, 689, 690, 691, 692, 693, 694, 695, 696, 697, 698, 699, 700, 701, 702, 703, 704, 705, 706, 707, 708, 709, 710, 711, 712, 713, 714, 715, 716, 717, 718, 719, 396, 720, 721, 722, 723, 724, 725, 726, 727, 728, 729, 485, 486, 487, 488, 489, 1302, 1303, 1304, 1305, 1306, 1307, 1308, 1309, 1310, 1311, 1312, 1313, 1350, 1351, 1352, 1353, 1354, 1355, 1345, 1346, 1347, 1348, 1349] (by decide +kernel) (by decide +kernel)
set_option maxRecDepth 20000 in
theorem gL_law_X12_holiday : GoodIn wsL_law (wsV RL 179 RX12 yX12_holiday wsX12_holiday) := goodIn_app (goodIn_of _ (by decide +kernel)) ggL_law_X12_holiday
set_option maxRecDepth 20000 in
theorem ggL_law_X12_interestShare : GoodIn wsL_law wsX12_interestShare := goodIn_r _ [1293, 127, 662, 859, 860, 861, 5, 862, 122, 663, 795, 796, 797, 121, 798, 694, 730, 731, 732, 733, 734, 735, 736, 737, 738, 739, 740, 741, 742, 743, 744, 745, 132, 1302, 1303, 1304, 1305, 1306, 1307, 1308, 1309, 1310, 1311, 1312, 1313, 1345, 1346, 1347] (by decide +kernel) (by decide +kernel)
set_option maxRecDepth 20000 in
theorem gL_law_X12_interestShare : GoodIn wsL_law (wsV RL 264 RX12 yX12_interestShare wsX12_interestShare) := goodIn_app (goodIn_of _ (by decide +kernel)) ggL_law_X12_interestShare
set_option maxRecDepth 20000 in
theorem ggL_law_X12_lifeWorth : GoodIn wsL_law wsX12_lifeWorth := goodIn_r _ [996, 997, 998, 999, 5, 1000, 360, 954, 539, 123, 167, 168, 169, 540, 541, 542, 543, 1001, 1002, 1003, 1004, 1005, 1006, 1007, 1008, 548, 1009, 1010, 1011, 1012, 244, 245, 246, 230, 231, 232, 233, 82, 234, 235, 203, 204, 205, 236, 237, 238, 239, 240, 241, 12, 13, 242, 243, 247, 248, 249, 250, 251, 252, 253, 254, 310, 311, 312, 313, 314, 315, 316, 286, 287, 288, 282, 283, 284, 285, 255, 256, 257, 258, 117, 259, 260, 261, 262, 263, 264, 265, 266, 267, 268, 269, 270, 271, 272, 273, 274, 275, 276, 277, 278, 279, 280, 281, 289, 290, 291, 292, 293, 294, 295, 296, 297, 298, 299, 300, 301, 302, 303, 304, 305, 306, 307, 308, 309, 317, 318, 319, 320, 321, 322, 170, 171, 172, 173, 127, 323, 324, 325, 326, 327, 328, 329, 330, 1302, 1303, 1304, 1305, 1306, 1307, 1308, 1309, 1310, 1311, 1312, 1313, 1348, 1349] (by decide +kernel) (by decide +kernel)
set_option maxRecDepth 20000 in
theorem gL_law_X12_lifeWorth : GoodIn wsL_law (wsV RL 216 RX12 yX12_lifeWorth wsX12_lifeWorth) := goodIn_app (goodIn_of _ (by decide +kernel)) ggL_law_X12_lifeWorth
set_option maxRecDepth 20000 in
theorem ggL_law_X12_live : GoodIn wsL_law wsX12_live := goodIn_r _ [953, 954, 381, 123, 167, 168, 5, 169, 170, 171, 172, 173, 127, 1302, 1303, 1304, 1305, 1306, 1307, 1308, 1309, 1310, 1311, 1312, 1313] (by decide +kernel) (by decide +kernel)
set_option maxRecDepth 20000 in
theorem gL_law_X12_live : GoodIn wsL_law (wsV RL 208 RX12 yX12_live wsX12_live) := goodIn_app (goodIn_of _ (by decide +kernel)) ggL_law_X12_live
set_option maxRecDepth 20000 in
theorem ggL_law_X12_meanAmount : GoodIn wsL_law wsX12_meanAmount := goodIn_r _ [1285, 127, 118, 382, 383, 384, 5, 385, 1302, 1303, 1304, 1305, 1306, 1307, 1308, 1309, 1310, 1311, 1312, 1313] (by decide +kernel) (by decide +kernel)
set_option maxRecDepth 20000 in
theorem gL_law_X12_meanAmount : GoodIn wsL_law (wsV RL 259 RX12 yX12_meanAmount wsX12_meanAmount) := goodIn_app (goodIn_of _ (by decide +kernel)) ggL_law_X12_meanAmount
set_option maxRecDepth 20000 in
theorem ggL_law_X12_mode : GoodIn wsL_law wsX12_mode := goodIn_r _ [185, 127, 117, 1302, 1303, 1304, 1305, 1306, 1307, 1308, 1309, 1310, 1311, 1312, 1313] (by decide +kernel) (by decide +kernel)
set_option maxRecDepth 20000 in
theorem gL_law_X12_mode : GoodIn wsL_law (wsV RL 136 RX12 yX12_mode wsX12_mode) := goodIn_app (goodIn_of _ (by decide +kernel)) ggL_law_X12_mode
set_option maxRecDepth 20000 in
theorem ggL_law_X12_part : GoodIn wsL_law wsX12_part := goodIn_r _ [1119, 227, 1087, 167, 168, 5, 169, 1120, 1121, 1122, 1123, 124, 170, 171, 172, 173, 127, 1124, 1125, 1126, 1127, 6, 1128, 1302, 1303, 1304, 1305, 1306, 1307, 1308, 1309, 1310, 1311, 1312, 1313] (by decide +kernel) (by decide +kernel)
set_option maxRecDepth 20000 in
theorem gL_law_X12_part : GoodIn wsL_law (wsV RL 237 RX12 yX12_part wsX12_part) := goodIn_app (goodIn_of _ (by decide +kernel)) ggL_law_X12_part
set_option maxRecDepth 20000 in
theorem ggL_law_X12_pay : GoodIn wsL_law wsX12_pay := goodIn_r _ [354, 355, 118, 167, 168, 5, 169, 356, 357, 358, 359, 360, 170, 171, 172, 173, 127, 1302, 1303, 1304, 1305, 1306, 1307, 1308, 1309, 1310, 1311, 1312, 1313] (by decide +kernel) (by decide +kernel)
set_option maxRecDepth 20000 in
theorem gL_law_X12_pay : GoodIn wsL_law (wsV RL 146 RX12 yX12_pay wsX12_pay) := goodIn_app (goodIn_of _ (by decide +kernel)) ggL_law_X12_pay
set_option maxRecDepth 20000 in
theorem ggL_law_X12_payMany : GoodIn wsL_law wsX12_payMany := goodIn_r _ [378, 355, 379, 380, 381, 118, 167, 168, 5, 169, 356, 357, 358, 359, 360, 170, 171, 172, 173, 127, 382, 383, 384, 385, 1302, 1303, 1304, 1305, 1306, 1307, 1308, 1309, 1310, 1311, 1312, 1313] (by decide +kernel) (by decide +kernel)
set_option maxRecDepth 20000 in
theorem gL_law_X12_payMany : GoodIn wsL_law (wsV RL 150 RX12 yX12_payMany wsX12_payMany) := goodIn_app (goodIn_of _ (by decide +kernel)) ggL_law_X12_payMany
set_option maxRecDepth 20000 in
theorem ggL_law_X12_premium : GoodIn wsL_law wsX12_premium := goodIn_r _ [1047, 360, 954, 167, 168, 5, 169, 540, 541, 542, 543, 1001, 1002, 1003, 1004, 1005, 1006, 1007, 1008, 548, 539, 1009, 1010, 1011, 1012, 123, 244, 245, 246, 230, 231, 232, 233, 82, 234, 235, 203, 204, 205, 236, 237, 238, 239, 240, 241, 12, 13, 242, 243, 247, 248, 249, 250, 251, 252, 253, 254, 310, 311, 312, 313, 314, 315, 316, 286, 287, 288, 282, 283, 284, 285, 255, 256, 257, 258, 117, 259, 260, 261, 262, 263, 264, 265, 266, 267, 268, 269, 270, 271, 272, 273, 274, 275, 276, 277, 278, 279, 280, 281, 289, 290, 291, 292, 293, 294, 295, 296, 297, 298, 299, 300, 301, 302, 303, 304, 305, 306, 307, 308, 309, 317, 318, 319, 320, 321, 322, 170, 171, 172, 173, 127, 323, 324, 325, 326, 327, 328, 329, 330, 1302, 1303, 1304, 1305, 1306, 1307, 1308, 1309, 1310, 1311, 1312, 1313, 1348, 1349] (by decide +kernel) (by decide +kernel)
set_option maxRecDepth 20000 in
theorem gL_law_X12_premium : GoodIn wsL_law (wsV RL 222 RX12 yX12_premium wsX12_premium) := goodIn_app (goodIn_of _ (by decide +kernel)) ggL_law_X12_premium
set_option maxRecDepth 20000 in
theorem ggL_law_X12_price : GoodIn wsL_law wsX12_price := goodIn_r _ [889, 539, 890, 891, 5, 892, 360, 355, 167, 168, 169, 540, 541, 542, 543, 893, 894, 895, 548, 230, 231, 232, 233, 82, 234, 235, 203, 204, 205, 236, 237, 238, 239, 240, 241, 12, 13, 242, 243, 247, 248, 249, 250, 251, 252, 253, 254, 310, 311, 312, 313, 314, 315, 316, 286, 287, 288, 282, 283, 284, 285, 244, 245, 246, 255, 256, 257, 258, 117, 259, 260, 261, 262, 263, 264, 265, 266, 267, 268, 269, 270, 271, 272, 273, 274, 275, 276, 277, 278, 279, 280, 281, 289, 290, 291, 292, 293, 294, 295, 296, 297, 298, 299, 300, 301, 302, 303, 304, 305, 306, 307, 308, 309, 317, 318, 319, 320, 321, 322, 170, 171, 172, 173, 127, 323, 324, 325, 326, 327, 328, 329, 330, 1348, 1349, 1302, 1303, 1304, 1305, 1306, 1307, 1308, 1309, 1310, 1311, 1312, 1313] (by decide +kernel) (by decide +kernel)
set_option maxRecDepth 20000 in
theorem gL_law_X12_price : GoodIn wsL_law (wsV RL 198 RX12 yX12_price wsX12_price) := goodIn_app (goodIn_of _ (by decide +kernel)) ggL_law_X12_price
set_option maxRecDepth 20000 in
theorem ggL_law_X12_reserve : GoodIn wsL_law wsX12_reserve := goodIn_r _ [1065, 360, 954, 167, 168, 5, 169, 540, 541, 542, 543, 1066, 1067, 1068, 1069, 123, 1070, 539, 1001, 1002, 1003, 1004, 1005, 1006, 1007, 1008, 548, 1009, 1010, 1011, 1012, 244, 245, 246, 230, 231, 232, 233, 82, 234, 235, 203, 204, 205, 236, 237, 238, 239, 240, 241, 12, 13, 242, 243, 247, 248, 249, 250, 251, 252, 253, 254, 310, 311, 312, 313, 314, 315, 316, 286, 287, 288, 282, 283, 284, 285, 683, 684, 685, 686, 264, 265, 266, 267, 687, 255, 256, 257, 258, 117, 259, 260, 261, 262, 263, 268, 269, 270, 271, 272, 273, 274, 275, 276, 277, 278, 279, 280, 281, 289, 290, 291, 292, 293, 294, 295, 296, 297, 298, 299, 300, 301, 302, 303, 304, 305, 306, 307, 308, 309, 317, 318, 319, 320, 321, 322, 170, 171, 172, 173, 127, 323, 324, 325, 326, 327, 328, 329, 330, 1302, 1303, 1304, 1305, 1306, 1307, 1308, 1309, 1310, 1311, 1312, 1313, 1348, 1349] (by decide +kernel) (by decide +kernel)
set_option maxRecDepth 20000 in
theorem gL_law_X12_reserve : GoodIn wsL_law (wsV RL 226 RX12 yX12_reserve wsX12_reserve) := goodIn_app (goodIn_of _ (by decide +kernel)) ggL_law_X12_reserve
set_option maxRecDepth 20000 in
theorem ggL_law_X12_round : GoodIn wsL_law wsX12_round := goodIn_r _ [225, 226, 227, 228, 229, 167, 168, 5, 169, 230, 231, 232, 233, 82, 234, 235, 203, 204, 205, 236, 237, 238, 239, 240, 241, 12, 13, 242, 243, 244, 245, 246, 247, 248, 249, 250, 251, 252, 253, 254, 255, 256, 257, 258, 117, 259, 260, 261, 262, 263, 264, 265, 266, 267, 268, 269, 270, 271, 272, 273, 274, 275, 276, 277, 278, 279, 280, 281, 282, 283, 284, 285, 286, 287, 288, 289, 290, 291, 292, 293, 294, 295, 296, 297, 298, 299, 300, 301, 302, 303, 304, 305, 306, 307, 308, 309, 310, 311, 312, 313, 314, 315, 316, 317, 318, 319, 320, 321, 322, 170, 171, 172, 173, 127, 323, 324, 325, 326, 327, 328, 329, 330, 1348, 1349, 1302, 1303, 1304, 1305, 1306, 1307, 1308, 1309, 1310, 1311, 1312, 1313] (by decide +kernel) (by decide +kernel)
set_option maxRecDepth 20000 in
theorem gL_law_X12_round : GoodIn wsL_law (wsV RL 142 RX12 yX12_round wsX12_round) := goodIn_app (goodIn_of _ (by decide +kernel)) ggL_law_X12_round
set_option maxRecDepth 20000 in
theorem ggL_law_X12_rowOf : GoodIn wsL_law wsX12_rowOf := goodIn_r _ [841, 228, 122, 663, 770, 771, 772, 5, 773, 662, 127, 167, 168, 169, 795, 796, 797, 121, 798, 694, 170, 171, 172, 173, 730, 731, 732, 733, 734, 735, 736, 737, 738, 739, 740, 741, 742, 743, 744, 745, 132, 1302, 1303, 1304, 1305, 1306, 1307, 1308, 1309, 1310, 1311, 1312, 1313, 1345, 1346, 1347] (by decide +kernel) (by decide +kernel)
set_option maxRecDepth 20000 in
theorem gL_law_X12_rowOf : GoodIn wsL_law (wsV RL 191 RX12 yX12_rowOf wsX12_rowOf) := goodIn_app (goodIn_of _ (by decide +kernel)) ggL_law_X12_rowOf
set_option maxRecDepth 20000 in
theorem ggL_law_X12_rowYield : GoodIn wsL_law wsX12_rowYield := goodIn_r _ [598, 599, 574, 575, 5, 576, 127, 118, 170, 171, 172, 173, 600, 601, 602, 603, 604, 605, 606, 607, 544, 545, 546, 547, 548, 539, 230, 231, 232, 233, 82, 234, 235, 203, 204, 205, 236, 237, 238, 239, 240, 241, 12, 13, 242, 243, 247, 248, 249, 250, 251, 252, 253, 254, 310, 311, 312, 313, 314, 315, 316, 286, 287, 288, 282, 283, 284, 285, 608, 609, 610, 611, 1302, 1303, 1304, 1305, 1306, 1307, 1308, 1309, 1310, 1311, 1312, 1313, 1348, 1349] (by decide +kernel) (by decide +kernel)
set_option maxRecDepth 20000 in
theorem gL_law_X12_rowYield : GoodIn wsL_law (wsV RL 172 RX12 yX12_rowYield wsX12_rowYield) := goodIn_app (goodIn_of _ (by decide +kernel)) ggL_law_X12_rowYield
set_option maxRecDepth 20000 in
theorem ggL_law_X12_rows : GoodIn wsL_law wsX12_rows := goodIn_r _ [824, 122, 770, 771, 772, 5, 773, 662, 127, 795, 796, 797, 121, 798, 694, 1302, 1303, 1304, 1305, 1306, 1307, 1308, 1309, 1310, 1311, 1312, 1313, 1345, 1346, 1347] (by decide +kernel) (by decide +kernel)
set_option maxRecDepth 20000 in
theorem gL_law_X12_rows : GoodIn wsL_law (wsV RL 188 RX12 yX12_rows wsX12_rows) := goodIn_app (goodIn_of _ (by decide +kernel)) ggL_law_X12_rows
set_option maxRecDepth 20000 in
theorem ggL_law_X12_setMode : GoodIn wsL_law wsX12_setMode := goodIn_r _ [165, 166, 117, 167, 168, 5, 169, 170, 171, 172, 173, 127, 1302, 1303, 1304, 1305, 1306, 1307, 1308, 1309, 1310, 1311, 1312, 1313] (by decide +kernel) (by decide +kernel)
set_option maxRecDepth 20000 in
theorem gL_law_X12_setMode : GoodIn wsL_law (wsV RL 129 RX12 yX12_setMode wsX12_setMode) := goodIn_app (goodIn_of _ (by decide +kernel)) ggL_law_X12_setMode
set_option maxRecDepth 20000 in
theorem ggL_law_X12_signAt : GoodIn wsL_law wsX12_signAt := goodIn_r _ [564, 540, 541, 5, 542, 543, 167, 168, 169, 170, 171, 172, 173, 127, 544, 545, 546, 547, 548, 539, 118, 230, 231, 232, 233, 82, 234, 235, 203, 204, 205, 236, 237, 238, 239, 240, 241, 12, 13, 242, 243, 247, 248, 249, 250, 251, 252, 253, 254, 310, 311, 312, 313, 314, 315, 316, 286, 287, 288, 282, 283, 284, 285, 1348, 1349, 1302, 1303, 1304, 1305, 1306, 1307, 1308, 1309, 1310, 1311, 1312, 1313] (by decide +kernel) (by decide +kernel)
set_option maxRecDepth 20000 in
theorem gL_law_X12_signAt : GoodIn wsL_law (wsV RL 164 RX12 yX12_signAt wsX12_signAt) := goodIn_app (goodIn_of _ (by decide +kernel)) ggL_law_X12_signAt
set_option maxRecDepth 20000 in
theorem ggL_law_X12_step : GoodIn wsL_law wsX12_step := goodIn_r _ [1149, 1150, 125, 360, 1151, 126, 167, 168, 5, 169, 170, 171, 172, 173, 127, 1302, 1303, 1304, 1305, 1306, 1307, 1308, 1309, 1310, 1311, 1312, 1313] (by decide +kernel) (by decide +kernel)
set_option maxRecDepth 20000 in
theorem gL_law_X12_step : GoodIn wsL_law (wsV RL 240 RX12 yX12_step wsX12_step) := goodIn_app (goodIn_of _ (by decide +kernel)) ggL_law_X12_step
set_option maxRecDepth 20000 in
theorem ggL_law_X12_tax : GoodIn wsL_law wsX12_tax := goodIn_r _ [1180, 227, 1151, 167, 168, 5, 169, 1181, 1182, 1183, 1184, 1150, 125, 678, 644, 204, 645, 1185, 449, 450, 126, 230, 231, 232, 233, 82, 234, 235, 203, 205, 236, 237, 238, 239, 240, 241, 12, 13, 242, 243, 255, 256, 257, 258, 117, 259, 260, 261, 262, 263, 264, 265, 266, 267, 268, 269, 270, 271, 272, 273, 274, 275, 276, 277, 278, 279, 280, 281, 282, 283, 284, 285, 286, 287, 288, 251, 252, 253, 254, 289, 290, 291, 292, 293, 294, 295, 248, 249, 250, 296, 297, 298, 299, 300, 301, 302, 303, 304, 305, 306, 307, 308, 309, 310, 311, 312, 313, 314, 315, 316, 317, 318, 319, 320, 321, 322, 170, 171, 172, 173, 127, 323, 324, 325, 326, 327, 328, 329, 330, 1302, 1303, 1304, 1305, 1306, 1307, 1308, 1309, 1310, 1311, 1312, 1313, 1348, 1349] (by decide +kernel) (by decide +kernel)
set_option maxRecDepth 20000 in
theorem gL_law_X12_tax : GoodIn wsL_law (wsV RL 248 RX12 yX12_tax wsX12_tax) := goodIn_app (goodIn_of _ (by decide +kernel)) ggL_law_X12_tax
set_option maxRecDepth 20000 in
theorem ggL_law_X12_thrown : GoodIn wsL_law wsX12_thrown := goodIn_r _ [177, 127, 1302, 1303, 1304, 1305, 1306, 1307, 1308, 1309, 1310, 1311, 1312, 1313] (by decide +kernel) (by decide +kernel)
set_option maxRecDepth 20000 in
theorem gL_law_X12_thrown : GoodIn wsL_law (wsV RL 130 RX12 yX12_thrown wsX12_thrown) := goodIn_app (goodIn_of _ (by decide +kernel)) ggL_law_X12_thrown
set_option maxRecDepth 20000 in
theorem ggL_law_X12_total : GoodIn wsL_law wsX12_total := goodIn_r _ [857, 858, 770, 771, 772, 5, 773, 662, 127, 167, 168, 169, 170, 171, 172, 173, 859, 860, 861, 862, 122, 663, 795, 796, 797, 121, 798, 694, 730, 731, 732, 733, 734, 735, 736, 737, 738, 739, 740, 741, 742, 743, 744, 745, 132, 1302, 1303, 1304, 1305, 1306, 1307, 1308, 1309, 1310, 1311, 1312, 1313, 1345, 1346, 1347] (by decide +kernel) (by decide +kernel)
set_option maxRecDepth 20000 in
theorem gL_law_X12_total : GoodIn wsL_law (wsV RL 194 RX12 yX12_total wsX12_total) := goodIn_app (goodIn_of _ (by decide +kernel)) ggL_law_X12_total
set_option maxRecDepth 20000 in
theorem ggL_law_X12_untaxed : GoodIn wsL_law wsX12_untaxed := goodIn_r _ [1210, 360, 227, 1128, 259, 167, 168, 5, 169, 170, 171, 172, 173, 127, 1211, 1212, 1213, 1214, 1151, 1181, 1182, 1183, 1184, 1150, 125, 678, 644, 204, 645, 1185, 449, 450, 126, 1302, 1303, 1304, 1305, 1306, 1307, 1308, 1309, 1310, 1311, 1312, 1313] (by decide +kernel) (by decide +kernel)
set_option maxRecDepth 20000 in
theorem gL_law_X12_untaxed : GoodIn wsL_law (wsV RL 251 RX12 yX12_untaxed wsX12_untaxed) := goodIn_app (goodIn_of _ (by decide +kernel)) ggL_law_X12_untaxed
set_option maxRecDepth 20000 in
theorem ggL_law_X12_weigh : GoodIn wsL_law wsX12_weigh := goodIn_r _ [1086, 381, 1087, 124, 167, 168, 5, 169, 170, 171, 172, 173, 127, 1302, 1303, 1304, 1305, 1306, 1307, 1308, 1309, 1310, 1311, 1312, 1313] (by decide +kernel) (by decide +kernel)
set_option maxRecDepth 20000 in
theorem gL_law_X12_weigh : GoodIn wsL_law (wsV RL 229 RX12 yX12_weigh wsX12_weigh) := goodIn_app (goodIn_of _ (by decide +kernel)) ggL_law_X12_weigh
set_option maxRecDepth 20000 in
theorem ggL_law_X12_worth : GoodIn wsL_law wsX12_worth := goodIn_r _ [538, 355, 539, 167, 168, 5, 169, 540, 541, 542, 543, 544, 545, 546, 547, 548, 118, 230, 231, 232, 233, 82, 234, 235, 203, 204, 205, 236, 237, 238, 239, 240, 241, 12, 13, 242, 243, 247, 248, 249, 250, 251, 252, 253, 254, 310, 311, 312, 313, 314, 315, 316, 286, 287, 288, 282, 283, 284, 285, 244, 245, 246, 255, 256, 257, 258, 117, 259, 260, 261, 262, 263, 264, 265, 266, 267, 268, 269, 270, 271, 272, 273, 274, 275, 276, 277, 278, 279, 280, 281, 289, 290, 291, 292, 293, 294, 295, 296, 297, 298, 299, 300, 301, 302, 303, 304, 305, 306, 307, 308, 309, 317, 318, 319, 320, 321, 322, 170, 171, 172, 173, 127, 323, 324, 325, 326, 327, 328, 329, 330, 1302, 1303, 1304, 1305, 1306, 1307, 1308, 1309, 1310, 1311, 1312, 1313, 1348, 1349] (by decide +kernel) (by decide +kernel)
set_option maxRecDepth 20000 in
theorem gL_law_X12_worth : GoodIn wsL_law (wsV RL 161 RX12 yX12_worth wsX12_worth) := goodIn_app (goodIn_of _ (by decide +kernel)) ggL_law_X12_worth
set_option maxRecDepth 20000 in
theorem ggL_law_X9_changes : GoodIn wsL_law wsX9_changes := goodIn_r _ [568, 21, 569, 570, 571, 20, 572, 50, 1294, 1295, 1296, 1297, 1298, 1299, 1300, 1301, 1315, 1316, 1317] (by decide +kernel) (by decide +kernel)
set_option maxRecDepth 20000 in
theorem gL_law_X9_changes : GoodIn wsL_law (wsV RL 165 RX9 yX9_changes wsX9_changes) := goodIn_app (goodIn_of _ (by decide +kernel)) ggL_law_X9_changes
set_option maxRecDepth 20000 in
theorem ggL_law_X9_clearLives : GoodIn wsL_law wsX9_clearLives := goodIn_r _ [958, 29, 959, 960, 961, 28, 962, 87, 1294, 1295, 1296, 1297, 1298, 1299, 1300, 1301, 1319, 1320, 1321, 1322] (by decide +kernel) (by decide +kernel)
set_option maxRecDepth 20000 in
theorem gL_law_X9_clearLives : GoodIn wsL_law (wsV RL 209 RX9 yX9_clearLives wsX9_clearLives) := goodIn_app (goodIn_of _ (by decide +kernel)) ggL_law_X9_clearLives
set_option maxRecDepth 20000 in
theorem ggL_law_X9_clearRow : GoodIn wsL_law wsX9_clearRow := goodIn_r _ [389, 21, 371, 372, 373, 20, 374, 50, 390, 391, 392, 393, 394, 395, 396, 397, 1294, 1295, 1296, 1297, 1298, 1299, 1300, 1301, 1315, 1316, 1317] (by decide +kernel) (by decide +kernel)
set_option maxRecDepth 20000 in
theorem gL_law_X9_clearRow : GoodIn wsL_law (wsV RL 151 RX9 yX9_clearRow wsX9_clearRow) := goodIn_app (goodIn_of _ (by decide +kernel)) ggL_law_X9_clearRow
set_option maxRecDepth 20000 in
theorem ggL_law_X9_clearSteps : GoodIn wsL_law wsX9_clearSteps := goodIn_r _ [1155, 37, 1156, 1157, 1158, 36, 1159, 98, 1294, 1295, 1296, 1297, 1298, 1299, 1300, 1301, 1325, 1326, 1327] (by decide +kernel) (by decide +kernel)
set_option maxRecDepth 20000 in
theorem gL_law_X9_clearSteps : GoodIn wsL_law (wsV RL 241 RX9 yX9_clearSteps wsX9_clearSteps) := goodIn_app (goodIn_of _ (by decide +kernel)) ggL_law_X9_clearSteps
set_option maxRecDepth 20000 in
theorem ggL_law_X9_clearWeights : GoodIn wsL_law wsX9_clearWeights := goodIn_r _ [1091, 33, 1092, 1093, 1094, 32, 1095, 92, 1294, 1295, 1296, 1297, 1298, 1299, 1300, 1301, 1323, 1324] (by decide +kernel) (by decide +kernel)
set_option maxRecDepth 20000 in
theorem gL_law_X9_clearWeights : GoodIn wsL_law (wsV RL 230 RX9 yX9_clearWeights wsX9_clearWeights) := goodIn_app (goodIn_of _ (by decide +kernel)) ggL_law_X9_clearWeights
set_option maxRecDepth 20000 in
theorem ggL_law_X9_interestShare : GoodIn wsL_law wsX9_interestShare := goodIn_r _ [1289, 41, 850, 851, 852, 40, 853, 112, 107, 1294, 1295, 1296, 1297, 1298, 1299, 1300, 1301, 1328, 1329, 1330, 1331, 1332, 1333, 1334, 1335] (by decide +kernel) (by decide +kernel)
set_option maxRecDepth 20000 in
theorem gL_law_X9_interestShare : GoodIn wsL_law (wsV RL 260 RX9 yX9_interestShare wsX9_interestShare) := goodIn_app (goodIn_of _ (by decide +kernel)) ggL_law_X9_interestShare
set_option maxRecDepth 20000 in
theorem ggL_law_X9_meanAmount : GoodIn wsL_law wsX9_meanAmount := goodIn_r _ [1277, 21, 371, 372, 373, 20, 374, 50, 1278, 1279, 1280, 1281, 1294, 1295, 1296, 1297, 1298, 1299, 1300, 1301, 1315, 1316, 1317] (by decide +kernel) (by decide +kernel)
set_option maxRecDepth 20000 in
theorem gL_law_X9_meanAmount : GoodIn wsL_law (wsV RL 255 RX9 yX9_meanAmount wsX9_meanAmount) := goodIn_app (goodIn_of _ (by decide +kernel)) ggL_law_X9_meanAmount
set_option maxRecDepth 20000 in
theorem ggL_law_X9_mode : GoodIn wsL_law wsX9_mode := goodIn_r _ [181, 17, 153, 1294, 1295, 1296, 1297, 1298, 1299, 1300, 1301, 1314] (by decide +kernel) (by decide +kernel)
set_option maxRecDepth 20000 in
theorem gL_law_X9_mode : GoodIn wsL_law (wsV RL 133 RX9 yX9_mode wsX9_mode) := goodIn_app (goodIn_of _ (by decide +kernel)) ggL_law_X9_mode
