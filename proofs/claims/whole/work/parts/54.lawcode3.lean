/-! ===== the law's code, 3 ===== -/
theorem dW_1049 : decode code 1049 = .ok (.aload_n 2, 1) := by decide +kernel
theorem dW_1050 : decode code 1050 = .ok (.aload_n 0, 1) := by decide +kernel
theorem dW_1051 : decode code 1051 = .ok (.iload 4, 2) := by decide +kernel
theorem dW_1053 : decode code 1053 = .ok (.iconst 1, 1) := by decide +kernel
theorem dW_1054 : decode code 1054 = .ok (.iadd, 1) := by decide +kernel
theorem dW_1055 : decode code 1055 = .ok (.iaload, 1) := by decide +kernel
theorem dW_1056 : decode code 1056 = .ok (.aload_n 0, 1) := by decide +kernel
theorem dW_1057 : decode code 1057 = .ok (.iload 4, 2) := by decide +kernel
theorem dW_1059 : decode code 1059 = .ok (.iconst 2, 1) := by decide +kernel
theorem dW_1060 : decode code 1060 = .ok (.iadd, 1) := by decide +kernel
theorem dW_1061 : decode code 1061 = .ok (.iaload, 1) := by decide +kernel
theorem dW_1062 : decode code 1062 = .ok (.invokevirtual 170, 3) := by decide +kernel
theorem dW_1065 : decode code 1065 = .ok (.istore 6, 2) := by decide +kernel
theorem dW_1067 : decode code 1067 = .ok (.aload_n 2, 1) := by decide +kernel
theorem dW_1068 : decode code 1068 = .ok (.invokevirtual 112, 3) := by decide +kernel
theorem dW_1071 : decode code 1071 = .ok (.iload 5, 2) := by decide +kernel
theorem dW_1073 : decode code 1073 = .ok (.if_icmp .eq 5, 3) := by decide +kernel
theorem dW_1076 : decode code 1076 = .ok (.iconst 0, 1) := by decide +kernel
theorem dW_1077 : decode code 1077 = .ok (.ireturn, 1) := by decide +kernel
theorem dW_1078 : decode code 1078 = .ok (.iload 5, 2) := by decide +kernel
theorem dW_1080 : decode code 1080 = .ok (.ifCond .ne 15, 3) := by decide +kernel
theorem dW_1083 : decode code 1083 = .ok (.aload_n 3, 1) := by decide +kernel
theorem dW_1084 : decode code 1084 = .ok (.iconst 0, 1) := by decide +kernel
theorem dW_1085 : decode code 1085 = .ok (.laload, 1) := by decide +kernel
theorem dW_1086 : decode code 1086 = .ok (.iload 6, 2) := by decide +kernel
theorem dW_1088 : decode code 1088 = .ok (.i2l, 1) := by decide +kernel
theorem dW_1089 : decode code 1089 = .ok (.lcmp, 1) := by decide +kernel
theorem dW_1090 : decode code 1090 = .ok (.ifCond .eq 5, 3) := by decide +kernel
theorem dW_1093 : decode code 1093 = .ok (.iconst 0, 1) := by decide +kernel
theorem dW_1094 : decode code 1094 = .ok (.ireturn, 1) := by decide +kernel
theorem dW_1095 : decode code 1095 = .ok (.goto 892, 3) := by decide +kernel
theorem dW_1098 : decode code 1098 = .ok (.aload_n 1, 1) := by decide +kernel
theorem dW_1099 : decode code 1099 = .ok (.aload_n 0, 1) := by decide +kernel
theorem dW_1100 : decode code 1100 = .ok (.iload 4, 2) := by decide +kernel
theorem dW_1102 : decode code 1102 = .ok (.iconst 1, 1) := by decide +kernel
theorem dW_1103 : decode code 1103 = .ok (.iadd, 1) := by decide +kernel
theorem dW_1104 : decode code 1104 = .ok (.iaload, 1) := by decide +kernel
theorem dW_1105 : decode code 1105 = .ok (.aload_n 0, 1) := by decide +kernel
theorem dW_1106 : decode code 1106 = .ok (.iload 4, 2) := by decide +kernel
theorem dW_1108 : decode code 1108 = .ok (.iconst 2, 1) := by decide +kernel
theorem dW_1109 : decode code 1109 = .ok (.iadd, 1) := by decide +kernel
theorem dW_1110 : decode code 1110 = .ok (.iaload, 1) := by decide +kernel
theorem dW_1111 : decode code 1111 = .ok (.aload_n 0, 1) := by decide +kernel
theorem dW_1112 : decode code 1112 = .ok (.iload 4, 2) := by decide +kernel
theorem dW_1114 : decode code 1114 = .ok (.iconst 3, 1) := by decide +kernel
theorem dW_1115 : decode code 1115 = .ok (.iadd, 1) := by decide +kernel
theorem dW_1116 : decode code 1116 = .ok (.iaload, 1) := by decide +kernel
theorem dW_1117 : decode code 1117 = .ok (.aload_n 3, 1) := by decide +kernel
theorem dW_1118 : decode code 1118 = .ok (.invokestatic 171, 3) := by decide +kernel
theorem dW_1121 : decode code 1121 = .ok (.istore 5, 2) := by decide +kernel
theorem dW_1123 : decode code 1123 = .ok (.aload_n 2, 1) := by decide +kernel
theorem dW_1124 : decode code 1124 = .ok (.aload_n 0, 1) := by decide +kernel
theorem dW_1125 : decode code 1125 = .ok (.iload 4, 2) := by decide +kernel
theorem dW_1127 : decode code 1127 = .ok (.iconst 1, 1) := by decide +kernel
theorem dW_1128 : decode code 1128 = .ok (.iadd, 1) := by decide +kernel
theorem dW_1129 : decode code 1129 = .ok (.iaload, 1) := by decide +kernel
theorem dW_1130 : decode code 1130 = .ok (.aload_n 0, 1) := by decide +kernel
theorem dW_1131 : decode code 1131 = .ok (.iload 4, 2) := by decide +kernel
theorem dW_1133 : decode code 1133 = .ok (.iconst 2, 1) := by decide +kernel
theorem dW_1134 : decode code 1134 = .ok (.iadd, 1) := by decide +kernel
theorem dW_1135 : decode code 1135 = .ok (.iaload, 1) := by decide +kernel
theorem dW_1136 : decode code 1136 = .ok (.aload_n 0, 1) := by decide +kernel
theorem dW_1137 : decode code 1137 = .ok (.iload 4, 2) := by decide +kernel
theorem dW_1139 : decode code 1139 = .ok (.iconst 3, 1) := by decide +kernel
theorem dW_1140 : decode code 1140 = .ok (.iadd, 1) := by decide +kernel
theorem dW_1141 : decode code 1141 = .ok (.iaload, 1) := by decide +kernel
theorem dW_1142 : decode code 1142 = .ok (.invokevirtual 173, 3) := by decide +kernel
theorem dW_1145 : decode code 1145 = .ok (.istore 6, 2) := by decide +kernel
theorem dW_1147 : decode code 1147 = .ok (.aload_n 2, 1) := by decide +kernel
theorem dW_1148 : decode code 1148 = .ok (.invokevirtual 112, 3) := by decide +kernel
theorem dW_1151 : decode code 1151 = .ok (.iload 5, 2) := by decide +kernel
theorem dW_1153 : decode code 1153 = .ok (.if_icmp .eq 5, 3) := by decide +kernel
theorem dW_1156 : decode code 1156 = .ok (.iconst 0, 1) := by decide +kernel
theorem dW_1157 : decode code 1157 = .ok (.ireturn, 1) := by decide +kernel
theorem dW_1158 : decode code 1158 = .ok (.iload 5, 2) := by decide +kernel
theorem dW_1160 : decode code 1160 = .ok (.ifCond .ne 15, 3) := by decide +kernel
theorem dW_1163 : decode code 1163 = .ok (.aload_n 3, 1) := by decide +kernel
theorem dW_1164 : decode code 1164 = .ok (.iconst 0, 1) := by decide +kernel
theorem dW_1165 : decode code 1165 = .ok (.laload, 1) := by decide +kernel
theorem dW_1166 : decode code 1166 = .ok (.iload 6, 2) := by decide +kernel
theorem dW_1168 : decode code 1168 = .ok (.i2l, 1) := by decide +kernel
theorem dW_1169 : decode code 1169 = .ok (.lcmp, 1) := by decide +kernel
theorem dW_1170 : decode code 1170 = .ok (.ifCond .eq 5, 3) := by decide +kernel
theorem dW_1173 : decode code 1173 = .ok (.iconst 0, 1) := by decide +kernel
theorem dW_1174 : decode code 1174 = .ok (.ireturn, 1) := by decide +kernel
theorem dW_1175 : decode code 1175 = .ok (.goto 812, 3) := by decide +kernel
theorem dW_1178 : decode code 1178 = .ok (.aload_n 1, 1) := by decide +kernel
theorem dW_1179 : decode code 1179 = .ok (.aload_n 0, 1) := by decide +kernel
theorem dW_1180 : decode code 1180 = .ok (.iload 4, 2) := by decide +kernel
theorem dW_1182 : decode code 1182 = .ok (.iconst 1, 1) := by decide +kernel
theorem dW_1183 : decode code 1183 = .ok (.iadd, 1) := by decide +kernel
theorem dW_1184 : decode code 1184 = .ok (.iaload, 1) := by decide +kernel
theorem dW_1185 : decode code 1185 = .ok (.aload_n 3, 1) := by decide +kernel
theorem dW_1186 : decode code 1186 = .ok (.invokestatic 174, 3) := by decide +kernel
theorem dW_1189 : decode code 1189 = .ok (.istore 5, 2) := by decide +kernel
theorem dW_1191 : decode code 1191 = .ok (.aload_n 2, 1) := by decide +kernel
theorem dW_1192 : decode code 1192 = .ok (.aload_n 0, 1) := by decide +kernel
theorem dW_1193 : decode code 1193 = .ok (.iload 4, 2) := by decide +kernel
theorem dW_1195 : decode code 1195 = .ok (.iconst 1, 1) := by decide +kernel
theorem dW_1196 : decode code 1196 = .ok (.iadd, 1) := by decide +kernel
theorem dW_1197 : decode code 1197 = .ok (.iaload, 1) := by decide +kernel
theorem dW_1198 : decode code 1198 = .ok (.invokevirtual 176, 3) := by decide +kernel
theorem dW_1201 : decode code 1201 = .ok (.istore 6, 2) := by decide +kernel
theorem dW_1203 : decode code 1203 = .ok (.aload_n 2, 1) := by decide +kernel
theorem dW_1204 : decode code 1204 = .ok (.invokevirtual 112, 3) := by decide +kernel
theorem dW_1207 : decode code 1207 = .ok (.iload 5, 2) := by decide +kernel
theorem dW_1209 : decode code 1209 = .ok (.if_icmp .eq 5, 3) := by decide +kernel
theorem dW_1212 : decode code 1212 = .ok (.iconst 0, 1) := by decide +kernel
theorem dW_1213 : decode code 1213 = .ok (.ireturn, 1) := by decide +kernel
theorem dW_1214 : decode code 1214 = .ok (.iload 5, 2) := by decide +kernel
theorem dW_1216 : decode code 1216 = .ok (.ifCond .ne 15, 3) := by decide +kernel
theorem dW_1219 : decode code 1219 = .ok (.aload_n 3, 1) := by decide +kernel
theorem dW_1220 : decode code 1220 = .ok (.iconst 0, 1) := by decide +kernel
theorem dW_1221 : decode code 1221 = .ok (.laload, 1) := by decide +kernel
theorem dW_1222 : decode code 1222 = .ok (.iload 6, 2) := by decide +kernel
theorem dW_1224 : decode code 1224 = .ok (.i2l, 1) := by decide +kernel
theorem dW_1225 : decode code 1225 = .ok (.lcmp, 1) := by decide +kernel
theorem dW_1226 : decode code 1226 = .ok (.ifCond .eq 5, 3) := by decide +kernel
theorem dW_1229 : decode code 1229 = .ok (.iconst 0, 1) := by decide +kernel
theorem dW_1230 : decode code 1230 = .ok (.ireturn, 1) := by decide +kernel
theorem dW_1231 : decode code 1231 = .ok (.goto 756, 3) := by decide +kernel
theorem dW_1234 : decode code 1234 = .ok (.aload_n 1, 1) := by decide +kernel
theorem dW_1235 : decode code 1235 = .ok (.aload_n 0, 1) := by decide +kernel
theorem dW_1236 : decode code 1236 = .ok (.iload 4, 2) := by decide +kernel
theorem dW_1238 : decode code 1238 = .ok (.iconst 1, 1) := by decide +kernel
theorem dW_1239 : decode code 1239 = .ok (.iadd, 1) := by decide +kernel
theorem dW_1240 : decode code 1240 = .ok (.iaload, 1) := by decide +kernel
theorem dW_1241 : decode code 1241 = .ok (.aload_n 3, 1) := by decide +kernel
theorem dW_1242 : decode code 1242 = .ok (.invokestatic 177, 3) := by decide +kernel
theorem dW_1245 : decode code 1245 = .ok (.istore 5, 2) := by decide +kernel
theorem dW_1247 : decode code 1247 = .ok (.aload_n 2, 1) := by decide +kernel
theorem dW_1248 : decode code 1248 = .ok (.aload_n 0, 1) := by decide +kernel
theorem dW_1249 : decode code 1249 = .ok (.iload 4, 2) := by decide +kernel
theorem dW_1251 : decode code 1251 = .ok (.iconst 1, 1) := by decide +kernel
theorem dW_1252 : decode code 1252 = .ok (.iadd, 1) := by decide +kernel
theorem dW_1253 : decode code 1253 = .ok (.iaload, 1) := by decide +kernel
theorem dW_1254 : decode code 1254 = .ok (.invokevirtual 179, 3) := by decide +kernel
theorem dW_1257 : decode code 1257 = .ok (.istore 6, 2) := by decide +kernel
theorem dW_1259 : decode code 1259 = .ok (.aload_n 2, 1) := by decide +kernel
theorem dW_1260 : decode code 1260 = .ok (.invokevirtual 112, 3) := by decide +kernel
theorem dW_1263 : decode code 1263 = .ok (.iload 5, 2) := by decide +kernel
theorem dW_1265 : decode code 1265 = .ok (.if_icmp .eq 5, 3) := by decide +kernel
theorem dW_1268 : decode code 1268 = .ok (.iconst 0, 1) := by decide +kernel
theorem dW_1269 : decode code 1269 = .ok (.ireturn, 1) := by decide +kernel
theorem dW_1270 : decode code 1270 = .ok (.iload 5, 2) := by decide +kernel
theorem dW_1272 : decode code 1272 = .ok (.ifCond .ne 15, 3) := by decide +kernel
theorem dW_1275 : decode code 1275 = .ok (.aload_n 3, 1) := by decide +kernel
theorem dW_1276 : decode code 1276 = .ok (.iconst 0, 1) := by decide +kernel
theorem dW_1277 : decode code 1277 = .ok (.laload, 1) := by decide +kernel
theorem dW_1278 : decode code 1278 = .ok (.iload 6, 2) := by decide +kernel
theorem dW_1280 : decode code 1280 = .ok (.i2l, 1) := by decide +kernel
theorem dW_1281 : decode code 1281 = .ok (.lcmp, 1) := by decide +kernel
theorem dW_1282 : decode code 1282 = .ok (.ifCond .eq 5, 3) := by decide +kernel
theorem dW_1285 : decode code 1285 = .ok (.iconst 0, 1) := by decide +kernel
theorem dW_1286 : decode code 1286 = .ok (.ireturn, 1) := by decide +kernel
theorem dW_1287 : decode code 1287 = .ok (.goto 700, 3) := by decide +kernel
theorem dW_1290 : decode code 1290 = .ok (.aload_n 1, 1) := by decide +kernel
theorem dW_1291 : decode code 1291 = .ok (.aload_n 0, 1) := by decide +kernel
theorem dW_1292 : decode code 1292 = .ok (.iload 4, 2) := by decide +kernel
theorem dW_1294 : decode code 1294 = .ok (.iconst 1, 1) := by decide +kernel
theorem dW_1295 : decode code 1295 = .ok (.iadd, 1) := by decide +kernel
theorem dW_1296 : decode code 1296 = .ok (.iaload, 1) := by decide +kernel
theorem dW_1297 : decode code 1297 = .ok (.aload_n 3, 1) := by decide +kernel
theorem dW_1298 : decode code 1298 = .ok (.invokestatic 180, 3) := by decide +kernel
theorem dW_1301 : decode code 1301 = .ok (.istore 5, 2) := by decide +kernel
theorem dW_1303 : decode code 1303 = .ok (.aload_n 2, 1) := by decide +kernel
theorem dW_1304 : decode code 1304 = .ok (.aload_n 0, 1) := by decide +kernel
theorem dW_1305 : decode code 1305 = .ok (.iload 4, 2) := by decide +kernel
theorem dW_1307 : decode code 1307 = .ok (.iconst 1, 1) := by decide +kernel
theorem dW_1308 : decode code 1308 = .ok (.iadd, 1) := by decide +kernel
theorem dW_1309 : decode code 1309 = .ok (.iaload, 1) := by decide +kernel
theorem dW_1310 : decode code 1310 = .ok (.invokevirtual 182, 3) := by decide +kernel
theorem dW_1313 : decode code 1313 = .ok (.istore 6, 2) := by decide +kernel
theorem dW_1315 : decode code 1315 = .ok (.aload_n 2, 1) := by decide +kernel
theorem dW_1316 : decode code 1316 = .ok (.invokevirtual 112, 3) := by decide +kernel
theorem dW_1319 : decode code 1319 = .ok (.iload 5, 2) := by decide +kernel
theorem dW_1321 : decode code 1321 = .ok (.if_icmp .eq 5, 3) := by decide +kernel
theorem dW_1324 : decode code 1324 = .ok (.iconst 0, 1) := by decide +kernel
theorem dW_1325 : decode code 1325 = .ok (.ireturn, 1) := by decide +kernel
theorem dW_1326 : decode code 1326 = .ok (.iload 5, 2) := by decide +kernel
theorem dW_1328 : decode code 1328 = .ok (.ifCond .ne 15, 3) := by decide +kernel
theorem dW_1331 : decode code 1331 = .ok (.aload_n 3, 1) := by decide +kernel
theorem dW_1332 : decode code 1332 = .ok (.iconst 0, 1) := by decide +kernel
theorem dW_1333 : decode code 1333 = .ok (.laload, 1) := by decide +kernel
theorem dW_1334 : decode code 1334 = .ok (.iload 6, 2) := by decide +kernel
theorem dW_1336 : decode code 1336 = .ok (.i2l, 1) := by decide +kernel
theorem dW_1337 : decode code 1337 = .ok (.lcmp, 1) := by decide +kernel
theorem dW_1338 : decode code 1338 = .ok (.ifCond .eq 5, 3) := by decide +kernel
theorem dW_1341 : decode code 1341 = .ok (.iconst 0, 1) := by decide +kernel
theorem dW_1342 : decode code 1342 = .ok (.ireturn, 1) := by decide +kernel
theorem dW_1343 : decode code 1343 = .ok (.goto 644, 3) := by decide +kernel
theorem dW_1346 : decode code 1346 = .ok (.aload_n 1, 1) := by decide +kernel
theorem dW_1347 : decode code 1347 = .ok (.invokevirtual 183, 3) := by decide +kernel
theorem dW_1350 : decode code 1350 = .ok (.aload_n 2, 1) := by decide +kernel
theorem dW_1351 : decode code 1351 = .ok (.invokevirtual 187, 3) := by decide +kernel
theorem dW_1354 : decode code 1354 = .ok (.lcmp, 1) := by decide +kernel
theorem dW_1355 : decode code 1355 = .ok (.ifCond .eq 632, 3) := by decide +kernel
theorem dW_1358 : decode code 1358 = .ok (.iconst 0, 1) := by decide +kernel
theorem dW_1359 : decode code 1359 = .ok (.ireturn, 1) := by decide +kernel
theorem dW_1360 : decode code 1360 = .ok (.aload_n 1, 1) := by decide +kernel
theorem dW_1361 : decode code 1361 = .ok (.aload_n 0, 1) := by decide +kernel
theorem dW_1362 : decode code 1362 = .ok (.iload 4, 2) := by decide +kernel
theorem dW_1364 : decode code 1364 = .ok (.iconst 1, 1) := by decide +kernel
theorem dW_1365 : decode code 1365 = .ok (.iadd, 1) := by decide +kernel
theorem dW_1366 : decode code 1366 = .ok (.iaload, 1) := by decide +kernel
theorem dW_1367 : decode code 1367 = .ok (.aload_n 3, 1) := by decide +kernel
theorem dW_1368 : decode code 1368 = .ok (.invokestatic 188, 3) := by decide +kernel
theorem dW_1371 : decode code 1371 = .ok (.istore 5, 2) := by decide +kernel
theorem dW_1373 : decode code 1373 = .ok (.aload_n 2, 1) := by decide +kernel
theorem dW_1374 : decode code 1374 = .ok (.aload_n 0, 1) := by decide +kernel
theorem dW_1375 : decode code 1375 = .ok (.iload 4, 2) := by decide +kernel
theorem dW_1377 : decode code 1377 = .ok (.iconst 1, 1) := by decide +kernel
theorem dW_1378 : decode code 1378 = .ok (.iadd, 1) := by decide +kernel
theorem dW_1379 : decode code 1379 = .ok (.iaload, 1) := by decide +kernel
theorem dW_1380 : decode code 1380 = .ok (.invokevirtual 190, 3) := by decide +kernel
theorem dW_1383 : decode code 1383 = .ok (.istore 6, 2) := by decide +kernel
theorem dW_1385 : decode code 1385 = .ok (.aload_n 2, 1) := by decide +kernel
theorem dW_1386 : decode code 1386 = .ok (.invokevirtual 112, 3) := by decide +kernel
theorem dW_1389 : decode code 1389 = .ok (.iload 5, 2) := by decide +kernel
theorem dW_1391 : decode code 1391 = .ok (.if_icmp .eq 5, 3) := by decide +kernel
theorem dW_1394 : decode code 1394 = .ok (.iconst 0, 1) := by decide +kernel
theorem dW_1395 : decode code 1395 = .ok (.ireturn, 1) := by decide +kernel
theorem dW_1396 : decode code 1396 = .ok (.iload 5, 2) := by decide +kernel
theorem dW_1398 : decode code 1398 = .ok (.ifCond .ne 15, 3) := by decide +kernel
theorem dW_1401 : decode code 1401 = .ok (.aload_n 3, 1) := by decide +kernel
theorem dW_1402 : decode code 1402 = .ok (.iconst 0, 1) := by decide +kernel
theorem dW_1403 : decode code 1403 = .ok (.laload, 1) := by decide +kernel
theorem dW_1404 : decode code 1404 = .ok (.iload 6, 2) := by decide +kernel
theorem dW_1406 : decode code 1406 = .ok (.i2l, 1) := by decide +kernel
theorem dW_1407 : decode code 1407 = .ok (.lcmp, 1) := by decide +kernel
theorem dW_1408 : decode code 1408 = .ok (.ifCond .eq 5, 3) := by decide +kernel
theorem dW_1411 : decode code 1411 = .ok (.iconst 0, 1) := by decide +kernel
theorem dW_1412 : decode code 1412 = .ok (.ireturn, 1) := by decide +kernel
theorem dW_1413 : decode code 1413 = .ok (.goto 574, 3) := by decide +kernel
theorem dW_1416 : decode code 1416 = .ok (.aload_n 1, 1) := by decide +kernel
theorem dW_1417 : decode code 1417 = .ok (.aload_n 0, 1) := by decide +kernel
theorem dW_1418 : decode code 1418 = .ok (.iload 4, 2) := by decide +kernel
theorem dW_1420 : decode code 1420 = .ok (.iconst 1, 1) := by decide +kernel
theorem dW_1421 : decode code 1421 = .ok (.iadd, 1) := by decide +kernel
theorem dW_1422 : decode code 1422 = .ok (.iaload, 1) := by decide +kernel
theorem dW_1423 : decode code 1423 = .ok (.invokestatic 191, 3) := by decide +kernel
theorem dW_1426 : decode code 1426 = .ok (.istore 5, 2) := by decide +kernel
theorem dW_1428 : decode code 1428 = .ok (.aload_n 2, 1) := by decide +kernel
theorem dW_1429 : decode code 1429 = .ok (.aload_n 0, 1) := by decide +kernel
theorem dW_1430 : decode code 1430 = .ok (.iload 4, 2) := by decide +kernel
theorem dW_1432 : decode code 1432 = .ok (.iconst 1, 1) := by decide +kernel
theorem dW_1433 : decode code 1433 = .ok (.iadd, 1) := by decide +kernel
theorem dW_1434 : decode code 1434 = .ok (.iaload, 1) := by decide +kernel
theorem dW_1435 : decode code 1435 = .ok (.invokevirtual 193, 3) := by decide +kernel
theorem dW_1438 : decode code 1438 = .ok (.aload_n 2, 1) := by decide +kernel
theorem dW_1439 : decode code 1439 = .ok (.invokevirtual 112, 3) := by decide +kernel
theorem dW_1442 : decode code 1442 = .ok (.iload 5, 2) := by decide +kernel
theorem dW_1444 : decode code 1444 = .ok (.if_icmp .eq 5, 3) := by decide +kernel
theorem dW_1447 : decode code 1447 = .ok (.iconst 0, 1) := by decide +kernel
theorem dW_1448 : decode code 1448 = .ok (.ireturn, 1) := by decide +kernel
theorem dW_1449 : decode code 1449 = .ok (.goto 538, 3) := by decide +kernel
theorem dW_1452 : decode code 1452 = .ok (.aload_n 1, 1) := by decide +kernel
theorem dW_1453 : decode code 1453 = .ok (.aload_n 0, 1) := by decide +kernel
theorem dW_1454 : decode code 1454 = .ok (.iload 4, 2) := by decide +kernel
theorem dW_1456 : decode code 1456 = .ok (.iconst 1, 1) := by decide +kernel
theorem dW_1457 : decode code 1457 = .ok (.iadd, 1) := by decide +kernel
theorem dW_1458 : decode code 1458 = .ok (.iaload, 1) := by decide +kernel
theorem dW_1459 : decode code 1459 = .ok (.aload_n 0, 1) := by decide +kernel
theorem dW_1460 : decode code 1460 = .ok (.iload 4, 2) := by decide +kernel
theorem dW_1462 : decode code 1462 = .ok (.iconst 2, 1) := by decide +kernel
theorem dW_1463 : decode code 1463 = .ok (.iadd, 1) := by decide +kernel
theorem dW_1464 : decode code 1464 = .ok (.iaload, 1) := by decide +kernel
theorem dW_1465 : decode code 1465 = .ok (.ifCond .eq 7, 3) := by decide +kernel
theorem dW_1468 : decode code 1468 = .ok (.iconst 1, 1) := by decide +kernel
theorem dW_1469 : decode code 1469 = .ok (.goto 4, 3) := by decide +kernel
theorem dW_1472 : decode code 1472 = .ok (.iconst 0, 1) := by decide +kernel
theorem dW_1473 : decode code 1473 = .ok (.aload_n 3, 1) := by decide +kernel
theorem dW_1474 : decode code 1474 = .ok (.invokestatic 194, 3) := by decide +kernel
theorem dW_1477 : decode code 1477 = .ok (.istore 5, 2) := by decide +kernel
theorem dW_1479 : decode code 1479 = .ok (.aload_n 2, 1) := by decide +kernel
theorem dW_1480 : decode code 1480 = .ok (.aload_n 0, 1) := by decide +kernel
theorem dW_1481 : decode code 1481 = .ok (.iload 4, 2) := by decide +kernel
theorem dW_1483 : decode code 1483 = .ok (.iconst 1, 1) := by decide +kernel
theorem dW_1484 : decode code 1484 = .ok (.iadd, 1) := by decide +kernel
theorem dW_1485 : decode code 1485 = .ok (.iaload, 1) := by decide +kernel
theorem dW_1486 : decode code 1486 = .ok (.aload_n 0, 1) := by decide +kernel
theorem dW_1487 : decode code 1487 = .ok (.iload 4, 2) := by decide +kernel
theorem dW_1489 : decode code 1489 = .ok (.iconst 2, 1) := by decide +kernel
theorem dW_1490 : decode code 1490 = .ok (.iadd, 1) := by decide +kernel
theorem dW_1491 : decode code 1491 = .ok (.iaload, 1) := by decide +kernel
theorem dW_1492 : decode code 1492 = .ok (.ifCond .eq 7, 3) := by decide +kernel
theorem dW_1495 : decode code 1495 = .ok (.iconst 1, 1) := by decide +kernel
theorem dW_1496 : decode code 1496 = .ok (.goto 4, 3) := by decide +kernel
theorem dW_1499 : decode code 1499 = .ok (.iconst 0, 1) := by decide +kernel
theorem dW_1500 : decode code 1500 = .ok (.invokevirtual 197, 3) := by decide +kernel
theorem dW_1503 : decode code 1503 = .ok (.istore 6, 2) := by decide +kernel
theorem dW_1505 : decode code 1505 = .ok (.aload_n 2, 1) := by decide +kernel
theorem dW_1506 : decode code 1506 = .ok (.invokevirtual 112, 3) := by decide +kernel
theorem dW_1509 : decode code 1509 = .ok (.iload 5, 2) := by decide +kernel
theorem dW_1511 : decode code 1511 = .ok (.if_icmp .eq 5, 3) := by decide +kernel
theorem dW_1514 : decode code 1514 = .ok (.iconst 0, 1) := by decide +kernel
theorem dW_1515 : decode code 1515 = .ok (.ireturn, 1) := by decide +kernel
theorem dW_1516 : decode code 1516 = .ok (.iload 5, 2) := by decide +kernel
theorem dW_1518 : decode code 1518 = .ok (.ifCond .ne 15, 3) := by decide +kernel
theorem dW_1521 : decode code 1521 = .ok (.aload_n 3, 1) := by decide +kernel
theorem dW_1522 : decode code 1522 = .ok (.iconst 0, 1) := by decide +kernel
theorem dW_1523 : decode code 1523 = .ok (.laload, 1) := by decide +kernel
theorem dW_1524 : decode code 1524 = .ok (.iload 6, 2) := by decide +kernel
