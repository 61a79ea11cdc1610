/-! the law: its instructions, 4 -/
theorem dL_1182 : decode code 1182 = .ok (.aload_n 0, 1) := by decide +kernel
theorem dL_1183 : decode code 1183 = .ok (.iload_n 3, 1) := by decide +kernel
theorem dL_1184 : decode code 1184 = .ok (.iconst 3, 1) := by decide +kernel
theorem dL_1185 : decode code 1185 = .ok (.iadd, 1) := by decide +kernel
theorem dL_1186 : decode code 1186 = .ok (.iaload, 1) := by decide +kernel
theorem dL_1187 : decode code 1187 = .ok (.invokevirtual 137, 3) := by decide +kernel
theorem dL_1190 : decode code 1190 = .ok (.aload_n 2, 1) := by decide +kernel
theorem dL_1191 : decode code 1191 = .ok (.aload_n 0, 1) := by decide +kernel
theorem dL_1192 : decode code 1192 = .ok (.iload_n 3, 1) := by decide +kernel
theorem dL_1193 : decode code 1193 = .ok (.iconst 1, 1) := by decide +kernel
theorem dL_1194 : decode code 1194 = .ok (.iadd, 1) := by decide +kernel
theorem dL_1195 : decode code 1195 = .ok (.iaload, 1) := by decide +kernel
theorem dL_1196 : decode code 1196 = .ok (.aload_n 0, 1) := by decide +kernel
theorem dL_1197 : decode code 1197 = .ok (.iload_n 3, 1) := by decide +kernel
theorem dL_1198 : decode code 1198 = .ok (.iconst 2, 1) := by decide +kernel
theorem dL_1199 : decode code 1199 = .ok (.iadd, 1) := by decide +kernel
theorem dL_1200 : decode code 1200 = .ok (.iaload, 1) := by decide +kernel
theorem dL_1201 : decode code 1201 = .ok (.aload_n 0, 1) := by decide +kernel
theorem dL_1202 : decode code 1202 = .ok (.iload_n 3, 1) := by decide +kernel
theorem dL_1203 : decode code 1203 = .ok (.iconst 3, 1) := by decide +kernel
theorem dL_1204 : decode code 1204 = .ok (.iadd, 1) := by decide +kernel
theorem dL_1205 : decode code 1205 = .ok (.iaload, 1) := by decide +kernel
theorem dL_1206 : decode code 1206 = .ok (.invokevirtual 140, 3) := by decide +kernel
theorem dL_1209 : decode code 1209 = .ok (.if_icmp .eq 397, 3) := by decide +kernel
theorem dL_1212 : decode code 1212 = .ok (.iconst 0, 1) := by decide +kernel
theorem dL_1213 : decode code 1213 = .ok (.ireturn, 1) := by decide +kernel
theorem dL_1214 : decode code 1214 = .ok (.aload_n 1, 1) := by decide +kernel
theorem dL_1215 : decode code 1215 = .ok (.aload_n 0, 1) := by decide +kernel
theorem dL_1216 : decode code 1216 = .ok (.iload_n 3, 1) := by decide +kernel
theorem dL_1217 : decode code 1217 = .ok (.iconst 1, 1) := by decide +kernel
theorem dL_1218 : decode code 1218 = .ok (.iadd, 1) := by decide +kernel
theorem dL_1219 : decode code 1219 = .ok (.iaload, 1) := by decide +kernel
theorem dL_1220 : decode code 1220 = .ok (.invokevirtual 141, 3) := by decide +kernel
theorem dL_1223 : decode code 1223 = .ok (.aload_n 2, 1) := by decide +kernel
theorem dL_1224 : decode code 1224 = .ok (.aload_n 0, 1) := by decide +kernel
theorem dL_1225 : decode code 1225 = .ok (.iload_n 3, 1) := by decide +kernel
theorem dL_1226 : decode code 1226 = .ok (.iconst 1, 1) := by decide +kernel
theorem dL_1227 : decode code 1227 = .ok (.iadd, 1) := by decide +kernel
theorem dL_1228 : decode code 1228 = .ok (.iaload, 1) := by decide +kernel
theorem dL_1229 : decode code 1229 = .ok (.invokevirtual 144, 3) := by decide +kernel
theorem dL_1232 : decode code 1232 = .ok (.if_icmp .eq 374, 3) := by decide +kernel
theorem dL_1235 : decode code 1235 = .ok (.iconst 0, 1) := by decide +kernel
theorem dL_1236 : decode code 1236 = .ok (.ireturn, 1) := by decide +kernel
theorem dL_1237 : decode code 1237 = .ok (.aload_n 1, 1) := by decide +kernel
theorem dL_1238 : decode code 1238 = .ok (.aload_n 0, 1) := by decide +kernel
theorem dL_1239 : decode code 1239 = .ok (.iload_n 3, 1) := by decide +kernel
theorem dL_1240 : decode code 1240 = .ok (.iconst 1, 1) := by decide +kernel
theorem dL_1241 : decode code 1241 = .ok (.iadd, 1) := by decide +kernel
theorem dL_1242 : decode code 1242 = .ok (.iaload, 1) := by decide +kernel
theorem dL_1243 : decode code 1243 = .ok (.aload_n 0, 1) := by decide +kernel
theorem dL_1244 : decode code 1244 = .ok (.iload_n 3, 1) := by decide +kernel
theorem dL_1245 : decode code 1245 = .ok (.iconst 2, 1) := by decide +kernel
theorem dL_1246 : decode code 1246 = .ok (.iadd, 1) := by decide +kernel
theorem dL_1247 : decode code 1247 = .ok (.iaload, 1) := by decide +kernel
theorem dL_1248 : decode code 1248 = .ok (.aload_n 0, 1) := by decide +kernel
theorem dL_1249 : decode code 1249 = .ok (.iload_n 3, 1) := by decide +kernel
theorem dL_1250 : decode code 1250 = .ok (.iconst 3, 1) := by decide +kernel
theorem dL_1251 : decode code 1251 = .ok (.iadd, 1) := by decide +kernel
theorem dL_1252 : decode code 1252 = .ok (.iaload, 1) := by decide +kernel
theorem dL_1253 : decode code 1253 = .ok (.invokevirtual 145, 3) := by decide +kernel
theorem dL_1256 : decode code 1256 = .ok (.aload_n 2, 1) := by decide +kernel
theorem dL_1257 : decode code 1257 = .ok (.aload_n 0, 1) := by decide +kernel
theorem dL_1258 : decode code 1258 = .ok (.iload_n 3, 1) := by decide +kernel
theorem dL_1259 : decode code 1259 = .ok (.iconst 1, 1) := by decide +kernel
theorem dL_1260 : decode code 1260 = .ok (.iadd, 1) := by decide +kernel
theorem dL_1261 : decode code 1261 = .ok (.iaload, 1) := by decide +kernel
theorem dL_1262 : decode code 1262 = .ok (.aload_n 0, 1) := by decide +kernel
theorem dL_1263 : decode code 1263 = .ok (.iload_n 3, 1) := by decide +kernel
theorem dL_1264 : decode code 1264 = .ok (.iconst 2, 1) := by decide +kernel
theorem dL_1265 : decode code 1265 = .ok (.iadd, 1) := by decide +kernel
theorem dL_1266 : decode code 1266 = .ok (.iaload, 1) := by decide +kernel
theorem dL_1267 : decode code 1267 = .ok (.aload_n 0, 1) := by decide +kernel
theorem dL_1268 : decode code 1268 = .ok (.iload_n 3, 1) := by decide +kernel
theorem dL_1269 : decode code 1269 = .ok (.iconst 3, 1) := by decide +kernel
theorem dL_1270 : decode code 1270 = .ok (.iadd, 1) := by decide +kernel
theorem dL_1271 : decode code 1271 = .ok (.iaload, 1) := by decide +kernel
theorem dL_1272 : decode code 1272 = .ok (.invokevirtual 148, 3) := by decide +kernel
theorem dL_1275 : decode code 1275 = .ok (.if_icmp .eq 331, 3) := by decide +kernel
theorem dL_1278 : decode code 1278 = .ok (.iconst 0, 1) := by decide +kernel
theorem dL_1279 : decode code 1279 = .ok (.ireturn, 1) := by decide +kernel
theorem dL_1280 : decode code 1280 = .ok (.aload_n 1, 1) := by decide +kernel
theorem dL_1281 : decode code 1281 = .ok (.aload_n 0, 1) := by decide +kernel
theorem dL_1282 : decode code 1282 = .ok (.iload_n 3, 1) := by decide +kernel
theorem dL_1283 : decode code 1283 = .ok (.iconst 1, 1) := by decide +kernel
theorem dL_1284 : decode code 1284 = .ok (.iadd, 1) := by decide +kernel
theorem dL_1285 : decode code 1285 = .ok (.iaload, 1) := by decide +kernel
theorem dL_1286 : decode code 1286 = .ok (.invokevirtual 149, 3) := by decide +kernel
theorem dL_1289 : decode code 1289 = .ok (.aload_n 2, 1) := by decide +kernel
theorem dL_1290 : decode code 1290 = .ok (.aload_n 0, 1) := by decide +kernel
theorem dL_1291 : decode code 1291 = .ok (.iload_n 3, 1) := by decide +kernel
theorem dL_1292 : decode code 1292 = .ok (.iconst 1, 1) := by decide +kernel
theorem dL_1293 : decode code 1293 = .ok (.iadd, 1) := by decide +kernel
theorem dL_1294 : decode code 1294 = .ok (.iaload, 1) := by decide +kernel
theorem dL_1295 : decode code 1295 = .ok (.invokevirtual 152, 3) := by decide +kernel
theorem dL_1298 : decode code 1298 = .ok (.if_icmp .eq 308, 3) := by decide +kernel
theorem dL_1301 : decode code 1301 = .ok (.iconst 0, 1) := by decide +kernel
theorem dL_1302 : decode code 1302 = .ok (.ireturn, 1) := by decide +kernel
theorem dL_1303 : decode code 1303 = .ok (.aload_n 1, 1) := by decide +kernel
theorem dL_1304 : decode code 1304 = .ok (.aload_n 0, 1) := by decide +kernel
theorem dL_1305 : decode code 1305 = .ok (.iload_n 3, 1) := by decide +kernel
theorem dL_1306 : decode code 1306 = .ok (.iconst 1, 1) := by decide +kernel
theorem dL_1307 : decode code 1307 = .ok (.iadd, 1) := by decide +kernel
theorem dL_1308 : decode code 1308 = .ok (.iaload, 1) := by decide +kernel
theorem dL_1309 : decode code 1309 = .ok (.aload_n 0, 1) := by decide +kernel
theorem dL_1310 : decode code 1310 = .ok (.iload_n 3, 1) := by decide +kernel
theorem dL_1311 : decode code 1311 = .ok (.iconst 2, 1) := by decide +kernel
theorem dL_1312 : decode code 1312 = .ok (.iadd, 1) := by decide +kernel
theorem dL_1313 : decode code 1313 = .ok (.iaload, 1) := by decide +kernel
theorem dL_1314 : decode code 1314 = .ok (.aload_n 0, 1) := by decide +kernel
theorem dL_1315 : decode code 1315 = .ok (.iload_n 3, 1) := by decide +kernel
theorem dL_1316 : decode code 1316 = .ok (.iconst 3, 1) := by decide +kernel
theorem dL_1317 : decode code 1317 = .ok (.iadd, 1) := by decide +kernel
theorem dL_1318 : decode code 1318 = .ok (.iaload, 1) := by decide +kernel
theorem dL_1319 : decode code 1319 = .ok (.invokevirtual 153, 3) := by decide +kernel
theorem dL_1322 : decode code 1322 = .ok (.aload_n 2, 1) := by decide +kernel
theorem dL_1323 : decode code 1323 = .ok (.aload_n 0, 1) := by decide +kernel
theorem dL_1324 : decode code 1324 = .ok (.iload_n 3, 1) := by decide +kernel
theorem dL_1325 : decode code 1325 = .ok (.iconst 1, 1) := by decide +kernel
theorem dL_1326 : decode code 1326 = .ok (.iadd, 1) := by decide +kernel
theorem dL_1327 : decode code 1327 = .ok (.iaload, 1) := by decide +kernel
theorem dL_1328 : decode code 1328 = .ok (.aload_n 0, 1) := by decide +kernel
theorem dL_1329 : decode code 1329 = .ok (.iload_n 3, 1) := by decide +kernel
theorem dL_1330 : decode code 1330 = .ok (.iconst 2, 1) := by decide +kernel
theorem dL_1331 : decode code 1331 = .ok (.iadd, 1) := by decide +kernel
theorem dL_1332 : decode code 1332 = .ok (.iaload, 1) := by decide +kernel
theorem dL_1333 : decode code 1333 = .ok (.aload_n 0, 1) := by decide +kernel
theorem dL_1334 : decode code 1334 = .ok (.iload_n 3, 1) := by decide +kernel
theorem dL_1335 : decode code 1335 = .ok (.iconst 3, 1) := by decide +kernel
theorem dL_1336 : decode code 1336 = .ok (.iadd, 1) := by decide +kernel
theorem dL_1337 : decode code 1337 = .ok (.iaload, 1) := by decide +kernel
theorem dL_1338 : decode code 1338 = .ok (.invokevirtual 156, 3) := by decide +kernel
theorem dL_1341 : decode code 1341 = .ok (.if_icmp .eq 265, 3) := by decide +kernel
theorem dL_1344 : decode code 1344 = .ok (.iconst 0, 1) := by decide +kernel
theorem dL_1345 : decode code 1345 = .ok (.ireturn, 1) := by decide +kernel
theorem dL_1346 : decode code 1346 = .ok (.aload_n 1, 1) := by decide +kernel
theorem dL_1347 : decode code 1347 = .ok (.aload_n 0, 1) := by decide +kernel
theorem dL_1348 : decode code 1348 = .ok (.iload_n 3, 1) := by decide +kernel
theorem dL_1349 : decode code 1349 = .ok (.iconst 1, 1) := by decide +kernel
theorem dL_1350 : decode code 1350 = .ok (.iadd, 1) := by decide +kernel
theorem dL_1351 : decode code 1351 = .ok (.iaload, 1) := by decide +kernel
theorem dL_1352 : decode code 1352 = .ok (.aload_n 0, 1) := by decide +kernel
theorem dL_1353 : decode code 1353 = .ok (.iload_n 3, 1) := by decide +kernel
theorem dL_1354 : decode code 1354 = .ok (.iconst 2, 1) := by decide +kernel
theorem dL_1355 : decode code 1355 = .ok (.iadd, 1) := by decide +kernel
theorem dL_1356 : decode code 1356 = .ok (.iaload, 1) := by decide +kernel
theorem dL_1357 : decode code 1357 = .ok (.aload_n 0, 1) := by decide +kernel
theorem dL_1358 : decode code 1358 = .ok (.iload_n 3, 1) := by decide +kernel
theorem dL_1359 : decode code 1359 = .ok (.iconst 3, 1) := by decide +kernel
theorem dL_1360 : decode code 1360 = .ok (.iadd, 1) := by decide +kernel
theorem dL_1361 : decode code 1361 = .ok (.iaload, 1) := by decide +kernel
theorem dL_1362 : decode code 1362 = .ok (.invokevirtual 157, 3) := by decide +kernel
theorem dL_1365 : decode code 1365 = .ok (.aload_n 2, 1) := by decide +kernel
theorem dL_1366 : decode code 1366 = .ok (.aload_n 0, 1) := by decide +kernel
theorem dL_1367 : decode code 1367 = .ok (.iload_n 3, 1) := by decide +kernel
theorem dL_1368 : decode code 1368 = .ok (.iconst 1, 1) := by decide +kernel
theorem dL_1369 : decode code 1369 = .ok (.iadd, 1) := by decide +kernel
theorem dL_1370 : decode code 1370 = .ok (.iaload, 1) := by decide +kernel
theorem dL_1371 : decode code 1371 = .ok (.aload_n 0, 1) := by decide +kernel
theorem dL_1372 : decode code 1372 = .ok (.iload_n 3, 1) := by decide +kernel
theorem dL_1373 : decode code 1373 = .ok (.iconst 2, 1) := by decide +kernel
theorem dL_1374 : decode code 1374 = .ok (.iadd, 1) := by decide +kernel
theorem dL_1375 : decode code 1375 = .ok (.iaload, 1) := by decide +kernel
theorem dL_1376 : decode code 1376 = .ok (.aload_n 0, 1) := by decide +kernel
theorem dL_1377 : decode code 1377 = .ok (.iload_n 3, 1) := by decide +kernel
theorem dL_1378 : decode code 1378 = .ok (.iconst 3, 1) := by decide +kernel
theorem dL_1379 : decode code 1379 = .ok (.iadd, 1) := by decide +kernel
theorem dL_1380 : decode code 1380 = .ok (.iaload, 1) := by decide +kernel
theorem dL_1381 : decode code 1381 = .ok (.invokevirtual 160, 3) := by decide +kernel
theorem dL_1384 : decode code 1384 = .ok (.if_icmp .eq 222, 3) := by decide +kernel
theorem dL_1387 : decode code 1387 = .ok (.iconst 0, 1) := by decide +kernel
theorem dL_1388 : decode code 1388 = .ok (.ireturn, 1) := by decide +kernel
theorem dL_1389 : decode code 1389 = .ok (.aload_n 1, 1) := by decide +kernel
theorem dL_1390 : decode code 1390 = .ok (.aload_n 0, 1) := by decide +kernel
theorem dL_1391 : decode code 1391 = .ok (.iload_n 3, 1) := by decide +kernel
theorem dL_1392 : decode code 1392 = .ok (.iconst 1, 1) := by decide +kernel
theorem dL_1393 : decode code 1393 = .ok (.iadd, 1) := by decide +kernel
theorem dL_1394 : decode code 1394 = .ok (.iaload, 1) := by decide +kernel
theorem dL_1395 : decode code 1395 = .ok (.aload_n 0, 1) := by decide +kernel
theorem dL_1396 : decode code 1396 = .ok (.iload_n 3, 1) := by decide +kernel
theorem dL_1397 : decode code 1397 = .ok (.iconst 2, 1) := by decide +kernel
theorem dL_1398 : decode code 1398 = .ok (.iadd, 1) := by decide +kernel
theorem dL_1399 : decode code 1399 = .ok (.iaload, 1) := by decide +kernel
theorem dL_1400 : decode code 1400 = .ok (.aload_n 0, 1) := by decide +kernel
theorem dL_1401 : decode code 1401 = .ok (.iload_n 3, 1) := by decide +kernel
theorem dL_1402 : decode code 1402 = .ok (.iconst 3, 1) := by decide +kernel
theorem dL_1403 : decode code 1403 = .ok (.iadd, 1) := by decide +kernel
theorem dL_1404 : decode code 1404 = .ok (.iaload, 1) := by decide +kernel
theorem dL_1405 : decode code 1405 = .ok (.aload_n 0, 1) := by decide +kernel
theorem dL_1406 : decode code 1406 = .ok (.iload_n 3, 1) := by decide +kernel
theorem dL_1407 : decode code 1407 = .ok (.iconst 4, 1) := by decide +kernel
theorem dL_1408 : decode code 1408 = .ok (.iadd, 1) := by decide +kernel
theorem dL_1409 : decode code 1409 = .ok (.iaload, 1) := by decide +kernel
theorem dL_1410 : decode code 1410 = .ok (.aload_n 0, 1) := by decide +kernel
theorem dL_1411 : decode code 1411 = .ok (.iload_n 3, 1) := by decide +kernel
theorem dL_1412 : decode code 1412 = .ok (.iconst 5, 1) := by decide +kernel
theorem dL_1413 : decode code 1413 = .ok (.iadd, 1) := by decide +kernel
theorem dL_1414 : decode code 1414 = .ok (.iaload, 1) := by decide +kernel
theorem dL_1415 : decode code 1415 = .ok (.invokevirtual 161, 3) := by decide +kernel
theorem dL_1418 : decode code 1418 = .ok (.aload_n 2, 1) := by decide +kernel
theorem dL_1419 : decode code 1419 = .ok (.aload_n 0, 1) := by decide +kernel
