-- words of the tables, and what stands at each place of the methods' code (laid by program)
/-! what stands at each place of the law's entry (3 of 4) -/
theorem dw_1054 : decode code 1054 = .ok (.aload_n 3, 1) := by decide +kernel
theorem dw_1055 : decode code 1055 = .ok (.invokestatic 150, 3) := by decide +kernel
theorem dw_1058 : decode code 1058 = .ok (.istore 6, 2) := by decide +kernel
theorem dw_1060 : decode code 1060 = .ok (.aload_n 2, 1) := by decide +kernel
theorem dw_1061 : decode code 1061 = .ok (.aload_n 0, 1) := by decide +kernel
theorem dw_1062 : decode code 1062 = .ok (.iload 5, 2) := by decide +kernel
theorem dw_1064 : decode code 1064 = .ok (.iconst 1, 1) := by decide +kernel
theorem dw_1065 : decode code 1065 = .ok (.iadd, 1) := by decide +kernel
theorem dw_1066 : decode code 1066 = .ok (.iaload, 1) := by decide +kernel
theorem dw_1067 : decode code 1067 = .ok (.invokevirtual 152, 3) := by decide +kernel
theorem dw_1070 : decode code 1070 = .ok (.istore 7, 2) := by decide +kernel
theorem dw_1072 : decode code 1072 = .ok (.aload_n 2, 1) := by decide +kernel
theorem dw_1073 : decode code 1073 = .ok (.invokevirtual 111, 3) := by decide +kernel
theorem dw_1076 : decode code 1076 = .ok (.iload 6, 2) := by decide +kernel
theorem dw_1078 : decode code 1078 = .ok (.if_icmp .eq 5, 3) := by decide +kernel
theorem dw_1083 : decode code 1083 = .ok (.iload 6, 2) := by decide +kernel
theorem dw_1085 : decode code 1085 = .ok (.ifCond .ne 15, 3) := by decide +kernel
theorem dw_1088 : decode code 1088 = .ok (.aload_n 3, 1) := by decide +kernel
theorem dw_1089 : decode code 1089 = .ok (.iconst 0, 1) := by decide +kernel
theorem dw_1090 : decode code 1090 = .ok (.laload, 1) := by decide +kernel
theorem dw_1091 : decode code 1091 = .ok (.iload 7, 2) := by decide +kernel
theorem dw_1093 : decode code 1093 = .ok (.i2l, 1) := by decide +kernel
theorem dw_1094 : decode code 1094 = .ok (.lcmp, 1) := by decide +kernel
theorem dw_1095 : decode code 1095 = .ok (.ifCond .eq 5, 3) := by decide +kernel
theorem dw_1100 : decode code 1100 = .ok (.goto 930, 3) := by decide +kernel
theorem dw_1103 : decode code 1103 = .ok (.aload_n 1, 1) := by decide +kernel
theorem dw_1104 : decode code 1104 = .ok (.aload_n 0, 1) := by decide +kernel
theorem dw_1105 : decode code 1105 = .ok (.iload 5, 2) := by decide +kernel
theorem dw_1107 : decode code 1107 = .ok (.iconst 1, 1) := by decide +kernel
theorem dw_1108 : decode code 1108 = .ok (.iadd, 1) := by decide +kernel
theorem dw_1109 : decode code 1109 = .ok (.iaload, 1) := by decide +kernel
theorem dw_1110 : decode code 1110 = .ok (.aload_n 0, 1) := by decide +kernel
theorem dw_1111 : decode code 1111 = .ok (.iload 5, 2) := by decide +kernel
theorem dw_1113 : decode code 1113 = .ok (.iconst 2, 1) := by decide +kernel
theorem dw_1114 : decode code 1114 = .ok (.iadd, 1) := by decide +kernel
theorem dw_1115 : decode code 1115 = .ok (.iaload, 1) := by decide +kernel
theorem dw_1116 : decode code 1116 = .ok (.aload_n 3, 1) := by decide +kernel
theorem dw_1117 : decode code 1117 = .ok (.invokestatic 153, 3) := by decide +kernel
theorem dw_1120 : decode code 1120 = .ok (.istore 6, 2) := by decide +kernel
theorem dw_1122 : decode code 1122 = .ok (.aload_n 2, 1) := by decide +kernel
theorem dw_1123 : decode code 1123 = .ok (.aload_n 0, 1) := by decide +kernel
theorem dw_1124 : decode code 1124 = .ok (.iload 5, 2) := by decide +kernel
theorem dw_1126 : decode code 1126 = .ok (.iconst 1, 1) := by decide +kernel
theorem dw_1127 : decode code 1127 = .ok (.iadd, 1) := by decide +kernel
theorem dw_1128 : decode code 1128 = .ok (.iaload, 1) := by decide +kernel
theorem dw_1129 : decode code 1129 = .ok (.aload_n 0, 1) := by decide +kernel
theorem dw_1130 : decode code 1130 = .ok (.iload 5, 2) := by decide +kernel
theorem dw_1132 : decode code 1132 = .ok (.iconst 2, 1) := by decide +kernel
theorem dw_1133 : decode code 1133 = .ok (.iadd, 1) := by decide +kernel
theorem dw_1134 : decode code 1134 = .ok (.iaload, 1) := by decide +kernel
theorem dw_1135 : decode code 1135 = .ok (.invokevirtual 155, 3) := by decide +kernel
theorem dw_1138 : decode code 1138 = .ok (.istore 7, 2) := by decide +kernel
theorem dw_1140 : decode code 1140 = .ok (.aload_n 2, 1) := by decide +kernel
theorem dw_1141 : decode code 1141 = .ok (.invokevirtual 111, 3) := by decide +kernel
theorem dw_1144 : decode code 1144 = .ok (.iload 6, 2) := by decide +kernel
theorem dw_1146 : decode code 1146 = .ok (.if_icmp .eq 5, 3) := by decide +kernel
theorem dw_1151 : decode code 1151 = .ok (.iload 6, 2) := by decide +kernel
theorem dw_1153 : decode code 1153 = .ok (.ifCond .ne 15, 3) := by decide +kernel
theorem dw_1156 : decode code 1156 = .ok (.aload_n 3, 1) := by decide +kernel
theorem dw_1157 : decode code 1157 = .ok (.iconst 0, 1) := by decide +kernel
theorem dw_1158 : decode code 1158 = .ok (.laload, 1) := by decide +kernel
theorem dw_1159 : decode code 1159 = .ok (.iload 7, 2) := by decide +kernel
theorem dw_1161 : decode code 1161 = .ok (.i2l, 1) := by decide +kernel
theorem dw_1162 : decode code 1162 = .ok (.lcmp, 1) := by decide +kernel
theorem dw_1163 : decode code 1163 = .ok (.ifCond .eq 5, 3) := by decide +kernel
theorem dw_1168 : decode code 1168 = .ok (.goto 862, 3) := by decide +kernel
theorem dw_1171 : decode code 1171 = .ok (.aload_n 1, 1) := by decide +kernel
theorem dw_1172 : decode code 1172 = .ok (.aload_n 0, 1) := by decide +kernel
theorem dw_1173 : decode code 1173 = .ok (.iload 5, 2) := by decide +kernel
theorem dw_1175 : decode code 1175 = .ok (.iconst 1, 1) := by decide +kernel
theorem dw_1176 : decode code 1176 = .ok (.iadd, 1) := by decide +kernel
theorem dw_1177 : decode code 1177 = .ok (.iaload, 1) := by decide +kernel
theorem dw_1178 : decode code 1178 = .ok (.aload_n 3, 1) := by decide +kernel
theorem dw_1179 : decode code 1179 = .ok (.invokestatic 156, 3) := by decide +kernel
theorem dw_1182 : decode code 1182 = .ok (.istore 6, 2) := by decide +kernel
theorem dw_1184 : decode code 1184 = .ok (.aload_n 2, 1) := by decide +kernel
theorem dw_1185 : decode code 1185 = .ok (.aload_n 0, 1) := by decide +kernel
theorem dw_1186 : decode code 1186 = .ok (.iload 5, 2) := by decide +kernel
theorem dw_1188 : decode code 1188 = .ok (.iconst 1, 1) := by decide +kernel
theorem dw_1189 : decode code 1189 = .ok (.iadd, 1) := by decide +kernel
theorem dw_1190 : decode code 1190 = .ok (.iaload, 1) := by decide +kernel
theorem dw_1191 : decode code 1191 = .ok (.invokevirtual 158, 3) := by decide +kernel
theorem dw_1194 : decode code 1194 = .ok (.istore 7, 2) := by decide +kernel
theorem dw_1196 : decode code 1196 = .ok (.aload_n 2, 1) := by decide +kernel
theorem dw_1197 : decode code 1197 = .ok (.invokevirtual 111, 3) := by decide +kernel
theorem dw_1200 : decode code 1200 = .ok (.iload 6, 2) := by decide +kernel
theorem dw_1202 : decode code 1202 = .ok (.if_icmp .eq 5, 3) := by decide +kernel
theorem dw_1207 : decode code 1207 = .ok (.iload 6, 2) := by decide +kernel
theorem dw_1209 : decode code 1209 = .ok (.ifCond .ne 15, 3) := by decide +kernel
theorem dw_1212 : decode code 1212 = .ok (.aload_n 3, 1) := by decide +kernel
theorem dw_1213 : decode code 1213 = .ok (.iconst 0, 1) := by decide +kernel
theorem dw_1214 : decode code 1214 = .ok (.laload, 1) := by decide +kernel
theorem dw_1215 : decode code 1215 = .ok (.iload 7, 2) := by decide +kernel
theorem dw_1217 : decode code 1217 = .ok (.i2l, 1) := by decide +kernel
theorem dw_1218 : decode code 1218 = .ok (.lcmp, 1) := by decide +kernel
theorem dw_1219 : decode code 1219 = .ok (.ifCond .eq 5, 3) := by decide +kernel
theorem dw_1224 : decode code 1224 = .ok (.goto 806, 3) := by decide +kernel
theorem dw_1227 : decode code 1227 = .ok (.aload_n 1, 1) := by decide +kernel
theorem dw_1228 : decode code 1228 = .ok (.aload_n 0, 1) := by decide +kernel
theorem dw_1229 : decode code 1229 = .ok (.iload 5, 2) := by decide +kernel
theorem dw_1231 : decode code 1231 = .ok (.iconst 1, 1) := by decide +kernel
theorem dw_1232 : decode code 1232 = .ok (.iadd, 1) := by decide +kernel
theorem dw_1233 : decode code 1233 = .ok (.iaload, 1) := by decide +kernel
theorem dw_1234 : decode code 1234 = .ok (.aload_n 3, 1) := by decide +kernel
theorem dw_1235 : decode code 1235 = .ok (.invokestatic 159, 3) := by decide +kernel
theorem dw_1238 : decode code 1238 = .ok (.istore 6, 2) := by decide +kernel
theorem dw_1240 : decode code 1240 = .ok (.aload_n 2, 1) := by decide +kernel
theorem dw_1241 : decode code 1241 = .ok (.aload_n 0, 1) := by decide +kernel
theorem dw_1242 : decode code 1242 = .ok (.iload 5, 2) := by decide +kernel
theorem dw_1244 : decode code 1244 = .ok (.iconst 1, 1) := by decide +kernel
theorem dw_1245 : decode code 1245 = .ok (.iadd, 1) := by decide +kernel
theorem dw_1246 : decode code 1246 = .ok (.iaload, 1) := by decide +kernel
theorem dw_1247 : decode code 1247 = .ok (.invokevirtual 161, 3) := by decide +kernel
theorem dw_1250 : decode code 1250 = .ok (.istore 7, 2) := by decide +kernel
theorem dw_1252 : decode code 1252 = .ok (.aload_n 2, 1) := by decide +kernel
theorem dw_1253 : decode code 1253 = .ok (.invokevirtual 111, 3) := by decide +kernel
theorem dw_1256 : decode code 1256 = .ok (.iload 6, 2) := by decide +kernel
theorem dw_1258 : decode code 1258 = .ok (.if_icmp .eq 5, 3) := by decide +kernel
theorem dw_1263 : decode code 1263 = .ok (.iload 6, 2) := by decide +kernel
theorem dw_1265 : decode code 1265 = .ok (.ifCond .ne 15, 3) := by decide +kernel
theorem dw_1268 : decode code 1268 = .ok (.aload_n 3, 1) := by decide +kernel
theorem dw_1269 : decode code 1269 = .ok (.iconst 0, 1) := by decide +kernel
theorem dw_1270 : decode code 1270 = .ok (.laload, 1) := by decide +kernel
theorem dw_1271 : decode code 1271 = .ok (.iload 7, 2) := by decide +kernel
theorem dw_1273 : decode code 1273 = .ok (.i2l, 1) := by decide +kernel
theorem dw_1274 : decode code 1274 = .ok (.lcmp, 1) := by decide +kernel
theorem dw_1275 : decode code 1275 = .ok (.ifCond .eq 5, 3) := by decide +kernel
theorem dw_1280 : decode code 1280 = .ok (.goto 750, 3) := by decide +kernel
theorem dw_1283 : decode code 1283 = .ok (.aload_n 1, 1) := by decide +kernel
theorem dw_1284 : decode code 1284 = .ok (.aload_n 0, 1) := by decide +kernel
theorem dw_1285 : decode code 1285 = .ok (.iload 5, 2) := by decide +kernel
theorem dw_1287 : decode code 1287 = .ok (.iconst 1, 1) := by decide +kernel
theorem dw_1288 : decode code 1288 = .ok (.iadd, 1) := by decide +kernel
theorem dw_1289 : decode code 1289 = .ok (.iaload, 1) := by decide +kernel
theorem dw_1290 : decode code 1290 = .ok (.aload_n 3, 1) := by decide +kernel
theorem dw_1291 : decode code 1291 = .ok (.invokestatic 162, 3) := by decide +kernel
theorem dw_1294 : decode code 1294 = .ok (.istore 6, 2) := by decide +kernel
theorem dw_1296 : decode code 1296 = .ok (.aload_n 2, 1) := by decide +kernel
theorem dw_1297 : decode code 1297 = .ok (.aload_n 0, 1) := by decide +kernel
theorem dw_1298 : decode code 1298 = .ok (.iload 5, 2) := by decide +kernel
theorem dw_1300 : decode code 1300 = .ok (.iconst 1, 1) := by decide +kernel
theorem dw_1301 : decode code 1301 = .ok (.iadd, 1) := by decide +kernel
theorem dw_1302 : decode code 1302 = .ok (.iaload, 1) := by decide +kernel
theorem dw_1303 : decode code 1303 = .ok (.invokevirtual 164, 3) := by decide +kernel
theorem dw_1306 : decode code 1306 = .ok (.istore 7, 2) := by decide +kernel
theorem dw_1308 : decode code 1308 = .ok (.aload_n 2, 1) := by decide +kernel
theorem dw_1309 : decode code 1309 = .ok (.invokevirtual 111, 3) := by decide +kernel
theorem dw_1312 : decode code 1312 = .ok (.iload 6, 2) := by decide +kernel
theorem dw_1314 : decode code 1314 = .ok (.if_icmp .eq 5, 3) := by decide +kernel
theorem dw_1319 : decode code 1319 = .ok (.iload 6, 2) := by decide +kernel
theorem dw_1321 : decode code 1321 = .ok (.ifCond .ne 15, 3) := by decide +kernel
theorem dw_1324 : decode code 1324 = .ok (.aload_n 3, 1) := by decide +kernel
theorem dw_1325 : decode code 1325 = .ok (.iconst 0, 1) := by decide +kernel
theorem dw_1326 : decode code 1326 = .ok (.laload, 1) := by decide +kernel
theorem dw_1327 : decode code 1327 = .ok (.iload 7, 2) := by decide +kernel
theorem dw_1329 : decode code 1329 = .ok (.i2l, 1) := by decide +kernel
theorem dw_1330 : decode code 1330 = .ok (.lcmp, 1) := by decide +kernel
theorem dw_1331 : decode code 1331 = .ok (.ifCond .eq 5, 3) := by decide +kernel
theorem dw_1336 : decode code 1336 = .ok (.goto 694, 3) := by decide +kernel
theorem dw_1339 : decode code 1339 = .ok (.aload_n 1, 1) := by decide +kernel
theorem dw_1340 : decode code 1340 = .ok (.aload_n 0, 1) := by decide +kernel
theorem dw_1341 : decode code 1341 = .ok (.iload 5, 2) := by decide +kernel
theorem dw_1343 : decode code 1343 = .ok (.iconst 1, 1) := by decide +kernel
theorem dw_1344 : decode code 1344 = .ok (.iadd, 1) := by decide +kernel
theorem dw_1345 : decode code 1345 = .ok (.iaload, 1) := by decide +kernel
theorem dw_1346 : decode code 1346 = .ok (.aload_n 0, 1) := by decide +kernel
theorem dw_1347 : decode code 1347 = .ok (.iload 5, 2) := by decide +kernel
theorem dw_1349 : decode code 1349 = .ok (.iconst 2, 1) := by decide +kernel
theorem dw_1350 : decode code 1350 = .ok (.iadd, 1) := by decide +kernel
theorem dw_1351 : decode code 1351 = .ok (.iaload, 1) := by decide +kernel
theorem dw_1352 : decode code 1352 = .ok (.aload_n 3, 1) := by decide +kernel
theorem dw_1353 : decode code 1353 = .ok (.invokestatic 165, 3) := by decide +kernel
theorem dw_1356 : decode code 1356 = .ok (.istore 6, 2) := by decide +kernel
theorem dw_1358 : decode code 1358 = .ok (.aload_n 2, 1) := by decide +kernel
theorem dw_1359 : decode code 1359 = .ok (.aload_n 0, 1) := by decide +kernel
theorem dw_1360 : decode code 1360 = .ok (.iload 5, 2) := by decide +kernel
theorem dw_1362 : decode code 1362 = .ok (.iconst 1, 1) := by decide +kernel
theorem dw_1363 : decode code 1363 = .ok (.iadd, 1) := by decide +kernel
theorem dw_1364 : decode code 1364 = .ok (.iaload, 1) := by decide +kernel
theorem dw_1365 : decode code 1365 = .ok (.aload_n 0, 1) := by decide +kernel
theorem dw_1366 : decode code 1366 = .ok (.iload 5, 2) := by decide +kernel
theorem dw_1368 : decode code 1368 = .ok (.iconst 2, 1) := by decide +kernel
theorem dw_1369 : decode code 1369 = .ok (.iadd, 1) := by decide +kernel
theorem dw_1370 : decode code 1370 = .ok (.iaload, 1) := by decide +kernel
theorem dw_1371 : decode code 1371 = .ok (.invokevirtual 167, 3) := by decide +kernel
theorem dw_1374 : decode code 1374 = .ok (.istore 7, 2) := by decide +kernel
theorem dw_1376 : decode code 1376 = .ok (.aload_n 2, 1) := by decide +kernel
theorem dw_1377 : decode code 1377 = .ok (.invokevirtual 111, 3) := by decide +kernel
theorem dw_1380 : decode code 1380 = .ok (.iload 6, 2) := by decide +kernel
theorem dw_1382 : decode code 1382 = .ok (.if_icmp .eq 5, 3) := by decide +kernel
theorem dw_1387 : decode code 1387 = .ok (.iload 6, 2) := by decide +kernel
theorem dw_1389 : decode code 1389 = .ok (.ifCond .ne 15, 3) := by decide +kernel
theorem dw_1392 : decode code 1392 = .ok (.aload_n 3, 1) := by decide +kernel
theorem dw_1393 : decode code 1393 = .ok (.iconst 0, 1) := by decide +kernel
theorem dw_1394 : decode code 1394 = .ok (.laload, 1) := by decide +kernel
theorem dw_1395 : decode code 1395 = .ok (.iload 7, 2) := by decide +kernel
theorem dw_1397 : decode code 1397 = .ok (.i2l, 1) := by decide +kernel
theorem dw_1398 : decode code 1398 = .ok (.lcmp, 1) := by decide +kernel
theorem dw_1399 : decode code 1399 = .ok (.ifCond .eq 5, 3) := by decide +kernel
theorem dw_1404 : decode code 1404 = .ok (.goto 626, 3) := by decide +kernel
theorem dw_1407 : decode code 1407 = .ok (.aload_n 1, 1) := by decide +kernel
theorem dw_1408 : decode code 1408 = .ok (.aload_n 0, 1) := by decide +kernel
theorem dw_1409 : decode code 1409 = .ok (.iload 5, 2) := by decide +kernel
theorem dw_1411 : decode code 1411 = .ok (.iconst 1, 1) := by decide +kernel
theorem dw_1412 : decode code 1412 = .ok (.iadd, 1) := by decide +kernel
theorem dw_1413 : decode code 1413 = .ok (.iaload, 1) := by decide +kernel
theorem dw_1414 : decode code 1414 = .ok (.aload_n 0, 1) := by decide +kernel
theorem dw_1415 : decode code 1415 = .ok (.iload 5, 2) := by decide +kernel
theorem dw_1417 : decode code 1417 = .ok (.iconst 2, 1) := by decide +kernel
theorem dw_1418 : decode code 1418 = .ok (.iadd, 1) := by decide +kernel
theorem dw_1419 : decode code 1419 = .ok (.iaload, 1) := by decide +kernel
theorem dw_1420 : decode code 1420 = .ok (.aload_n 0, 1) := by decide +kernel
theorem dw_1421 : decode code 1421 = .ok (.iload 5, 2) := by decide +kernel
theorem dw_1423 : decode code 1423 = .ok (.iconst 3, 1) := by decide +kernel
theorem dw_1424 : decode code 1424 = .ok (.iadd, 1) := by decide +kernel
theorem dw_1425 : decode code 1425 = .ok (.iaload, 1) := by decide +kernel
theorem dw_1426 : decode code 1426 = .ok (.aload_n 3, 1) := by decide +kernel
theorem dw_1427 : decode code 1427 = .ok (.invokestatic 168, 3) := by decide +kernel
theorem dw_1430 : decode code 1430 = .ok (.istore 6, 2) := by decide +kernel
theorem dw_1432 : decode code 1432 = .ok (.aload_n 2, 1) := by decide +kernel
theorem dw_1433 : decode code 1433 = .ok (.aload_n 0, 1) := by decide +kernel
theorem dw_1434 : decode code 1434 = .ok (.iload 5, 2) := by decide +kernel
theorem dw_1436 : decode code 1436 = .ok (.iconst 1, 1) := by decide +kernel
theorem dw_1437 : decode code 1437 = .ok (.iadd, 1) := by decide +kernel
theorem dw_1438 : decode code 1438 = .ok (.iaload, 1) := by decide +kernel
theorem dw_1439 : decode code 1439 = .ok (.aload_n 0, 1) := by decide +kernel
theorem dw_1440 : decode code 1440 = .ok (.iload 5, 2) := by decide +kernel
theorem dw_1442 : decode code 1442 = .ok (.iconst 2, 1) := by decide +kernel
theorem dw_1443 : decode code 1443 = .ok (.iadd, 1) := by decide +kernel
theorem dw_1444 : decode code 1444 = .ok (.iaload, 1) := by decide +kernel
theorem dw_1445 : decode code 1445 = .ok (.aload_n 0, 1) := by decide +kernel
theorem dw_1446 : decode code 1446 = .ok (.iload 5, 2) := by decide +kernel
theorem dw_1448 : decode code 1448 = .ok (.iconst 3, 1) := by decide +kernel
theorem dw_1449 : decode code 1449 = .ok (.iadd, 1) := by decide +kernel
theorem dw_1450 : decode code 1450 = .ok (.iaload, 1) := by decide +kernel
theorem dw_1451 : decode code 1451 = .ok (.invokevirtual 170, 3) := by decide +kernel
theorem dw_1454 : decode code 1454 = .ok (.istore 7, 2) := by decide +kernel
theorem dw_1456 : decode code 1456 = .ok (.aload_n 2, 1) := by decide +kernel
theorem dw_1457 : decode code 1457 = .ok (.invokevirtual 111, 3) := by decide +kernel
theorem dw_1460 : decode code 1460 = .ok (.iload 6, 2) := by decide +kernel
theorem dw_1462 : decode code 1462 = .ok (.if_icmp .eq 5, 3) := by decide +kernel
theorem dw_1467 : decode code 1467 = .ok (.iload 6, 2) := by decide +kernel
theorem dw_1469 : decode code 1469 = .ok (.ifCond .ne 15, 3) := by decide +kernel
theorem dw_1472 : decode code 1472 = .ok (.aload_n 3, 1) := by decide +kernel
theorem dw_1473 : decode code 1473 = .ok (.iconst 0, 1) := by decide +kernel
theorem dw_1474 : decode code 1474 = .ok (.laload, 1) := by decide +kernel
theorem dw_1475 : decode code 1475 = .ok (.iload 7, 2) := by decide +kernel
theorem dw_1477 : decode code 1477 = .ok (.i2l, 1) := by decide +kernel
theorem dw_1478 : decode code 1478 = .ok (.lcmp, 1) := by decide +kernel
theorem dw_1479 : decode code 1479 = .ok (.ifCond .eq 5, 3) := by decide +kernel
theorem dw_1484 : decode code 1484 = .ok (.goto 546, 3) := by decide +kernel
theorem dw_1487 : decode code 1487 = .ok (.aload_n 1, 1) := by decide +kernel
theorem dw_1488 : decode code 1488 = .ok (.aload_n 0, 1) := by decide +kernel
theorem dw_1489 : decode code 1489 = .ok (.iload 5, 2) := by decide +kernel
theorem dw_1491 : decode code 1491 = .ok (.iconst 1, 1) := by decide +kernel
theorem dw_1492 : decode code 1492 = .ok (.iadd, 1) := by decide +kernel
theorem dw_1493 : decode code 1493 = .ok (.iaload, 1) := by decide +kernel
theorem dw_1494 : decode code 1494 = .ok (.aload_n 0, 1) := by decide +kernel
theorem dw_1495 : decode code 1495 = .ok (.iload 5, 2) := by decide +kernel
theorem dw_1497 : decode code 1497 = .ok (.iconst 2, 1) := by decide +kernel
theorem dw_1498 : decode code 1498 = .ok (.iadd, 1) := by decide +kernel
theorem dw_1499 : decode code 1499 = .ok (.iaload, 1) := by decide +kernel
theorem dw_1500 : decode code 1500 = .ok (.aload_n 3, 1) := by decide +kernel
theorem dw_1501 : decode code 1501 = .ok (.invokestatic 171, 3) := by decide +kernel
theorem dw_1504 : decode code 1504 = .ok (.istore 6, 2) := by decide +kernel
theorem dw_1506 : decode code 1506 = .ok (.aload_n 2, 1) := by decide +kernel
theorem dw_1507 : decode code 1507 = .ok (.aload_n 0, 1) := by decide +kernel
theorem dw_1508 : decode code 1508 = .ok (.iload 5, 2) := by decide +kernel
theorem dw_1510 : decode code 1510 = .ok (.iconst 1, 1) := by decide +kernel
theorem dw_1511 : decode code 1511 = .ok (.iadd, 1) := by decide +kernel
theorem dw_1512 : decode code 1512 = .ok (.iaload, 1) := by decide +kernel
theorem dw_1513 : decode code 1513 = .ok (.aload_n 0, 1) := by decide +kernel
theorem dw_1514 : decode code 1514 = .ok (.iload 5, 2) := by decide +kernel
theorem dw_1516 : decode code 1516 = .ok (.iconst 2, 1) := by decide +kernel
theorem dw_1517 : decode code 1517 = .ok (.iadd, 1) := by decide +kernel
theorem dw_1518 : decode code 1518 = .ok (.iaload, 1) := by decide +kernel
theorem dw_1519 : decode code 1519 = .ok (.invokevirtual 173, 3) := by decide +kernel
theorem dw_1522 : decode code 1522 = .ok (.istore 7, 2) := by decide +kernel
theorem dw_1524 : decode code 1524 = .ok (.aload_n 2, 1) := by decide +kernel
theorem dw_1525 : decode code 1525 = .ok (.invokevirtual 111, 3) := by decide +kernel
theorem dw_1528 : decode code 1528 = .ok (.iload 6, 2) := by decide +kernel
theorem dw_1530 : decode code 1530 = .ok (.if_icmp .eq 5, 3) := by decide +kernel
theorem dw_1535 : decode code 1535 = .ok (.iload 6, 2) := by decide +kernel
theorem dw_1537 : decode code 1537 = .ok (.ifCond .ne 15, 3) := by decide +kernel
theorem dw_1540 : decode code 1540 = .ok (.aload_n 3, 1) := by decide +kernel
