/-! the law: what its bytes say, 5 -/
theorem dl_1266 : decode code 1266 = .ok (.aload_n 1, 1) := by decide +kernel
theorem dl_1267 : decode code 1267 = .ok (.aload_n 0, 1) := by decide +kernel
theorem dl_1268 : decode code 1268 = .ok (.iload_n 3, 1) := by decide +kernel
theorem dl_1269 : decode code 1269 = .ok (.iconst 1, 1) := by decide +kernel
theorem dl_1270 : decode code 1270 = .ok (.iadd, 1) := by decide +kernel
theorem dl_1271 : decode code 1271 = .ok (.iaload, 1) := by decide +kernel
theorem dl_1272 : decode code 1272 = .ok (.aload_n 0, 1) := by decide +kernel
theorem dl_1273 : decode code 1273 = .ok (.iload_n 3, 1) := by decide +kernel
theorem dl_1274 : decode code 1274 = .ok (.iconst 2, 1) := by decide +kernel
theorem dl_1275 : decode code 1275 = .ok (.iadd, 1) := by decide +kernel
theorem dl_1276 : decode code 1276 = .ok (.iaload, 1) := by decide +kernel
theorem dl_1277 : decode code 1277 = .ok (.invokevirtual 151, 3) := by decide +kernel
theorem dl_1280 : decode code 1280 = .ok (.aload_n 2, 1) := by decide +kernel
theorem dl_1281 : decode code 1281 = .ok (.aload_n 0, 1) := by decide +kernel
theorem dl_1282 : decode code 1282 = .ok (.iload_n 3, 1) := by decide +kernel
theorem dl_1283 : decode code 1283 = .ok (.iconst 1, 1) := by decide +kernel
theorem dl_1284 : decode code 1284 = .ok (.iadd, 1) := by decide +kernel
theorem dl_1285 : decode code 1285 = .ok (.iaload, 1) := by decide +kernel
theorem dl_1286 : decode code 1286 = .ok (.aload_n 0, 1) := by decide +kernel
theorem dl_1287 : decode code 1287 = .ok (.iload_n 3, 1) := by decide +kernel
theorem dl_1288 : decode code 1288 = .ok (.iconst 2, 1) := by decide +kernel
theorem dl_1289 : decode code 1289 = .ok (.iadd, 1) := by decide +kernel
theorem dl_1290 : decode code 1290 = .ok (.iaload, 1) := by decide +kernel
theorem dl_1291 : decode code 1291 = .ok (.invokevirtual 154, 3) := by decide +kernel
theorem dl_1294 : decode code 1294 = .ok (.if_icmp .eq 731, 3) := by decide +kernel
theorem dl_1297 : decode code 1297 = .ok (.iconst 0, 1) := by decide +kernel
theorem dl_1298 : decode code 1298 = .ok (.ireturn, 1) := by decide +kernel
theorem dl_1299 : decode code 1299 = .ok (.aload_n 1, 1) := by decide +kernel
theorem dl_1300 : decode code 1300 = .ok (.aload_n 0, 1) := by decide +kernel
theorem dl_1301 : decode code 1301 = .ok (.iload_n 3, 1) := by decide +kernel
theorem dl_1302 : decode code 1302 = .ok (.iconst 1, 1) := by decide +kernel
theorem dl_1303 : decode code 1303 = .ok (.iadd, 1) := by decide +kernel
theorem dl_1304 : decode code 1304 = .ok (.iaload, 1) := by decide +kernel
theorem dl_1305 : decode code 1305 = .ok (.aload_n 0, 1) := by decide +kernel
theorem dl_1306 : decode code 1306 = .ok (.iload_n 3, 1) := by decide +kernel
theorem dl_1307 : decode code 1307 = .ok (.iconst 2, 1) := by decide +kernel
theorem dl_1308 : decode code 1308 = .ok (.iadd, 1) := by decide +kernel
theorem dl_1309 : decode code 1309 = .ok (.iaload, 1) := by decide +kernel
theorem dl_1310 : decode code 1310 = .ok (.invokevirtual 155, 3) := by decide +kernel
theorem dl_1313 : decode code 1313 = .ok (.aload_n 2, 1) := by decide +kernel
theorem dl_1314 : decode code 1314 = .ok (.aload_n 0, 1) := by decide +kernel
theorem dl_1315 : decode code 1315 = .ok (.iload_n 3, 1) := by decide +kernel
theorem dl_1316 : decode code 1316 = .ok (.iconst 1, 1) := by decide +kernel
theorem dl_1317 : decode code 1317 = .ok (.iadd, 1) := by decide +kernel
theorem dl_1318 : decode code 1318 = .ok (.iaload, 1) := by decide +kernel
theorem dl_1319 : decode code 1319 = .ok (.aload_n 0, 1) := by decide +kernel
theorem dl_1320 : decode code 1320 = .ok (.iload_n 3, 1) := by decide +kernel
theorem dl_1321 : decode code 1321 = .ok (.iconst 2, 1) := by decide +kernel
theorem dl_1322 : decode code 1322 = .ok (.iadd, 1) := by decide +kernel
theorem dl_1323 : decode code 1323 = .ok (.iaload, 1) := by decide +kernel
theorem dl_1324 : decode code 1324 = .ok (.invokevirtual 158, 3) := by decide +kernel
theorem dl_1327 : decode code 1327 = .ok (.if_icmp .eq 698, 3) := by decide +kernel
theorem dl_1330 : decode code 1330 = .ok (.iconst 0, 1) := by decide +kernel
theorem dl_1331 : decode code 1331 = .ok (.ireturn, 1) := by decide +kernel
theorem dl_1332 : decode code 1332 = .ok (.aload_n 1, 1) := by decide +kernel
theorem dl_1333 : decode code 1333 = .ok (.aload_n 0, 1) := by decide +kernel
theorem dl_1334 : decode code 1334 = .ok (.iload_n 3, 1) := by decide +kernel
theorem dl_1335 : decode code 1335 = .ok (.iconst 1, 1) := by decide +kernel
theorem dl_1336 : decode code 1336 = .ok (.iadd, 1) := by decide +kernel
theorem dl_1337 : decode code 1337 = .ok (.iaload, 1) := by decide +kernel
theorem dl_1338 : decode code 1338 = .ok (.invokevirtual 159, 3) := by decide +kernel
theorem dl_1341 : decode code 1341 = .ok (.aload_n 2, 1) := by decide +kernel
theorem dl_1342 : decode code 1342 = .ok (.aload_n 0, 1) := by decide +kernel
theorem dl_1343 : decode code 1343 = .ok (.iload_n 3, 1) := by decide +kernel
theorem dl_1344 : decode code 1344 = .ok (.iconst 1, 1) := by decide +kernel
theorem dl_1345 : decode code 1345 = .ok (.iadd, 1) := by decide +kernel
theorem dl_1346 : decode code 1346 = .ok (.iaload, 1) := by decide +kernel
theorem dl_1347 : decode code 1347 = .ok (.invokevirtual 162, 3) := by decide +kernel
theorem dl_1350 : decode code 1350 = .ok (.if_icmp .eq 675, 3) := by decide +kernel
theorem dl_1353 : decode code 1353 = .ok (.iconst 0, 1) := by decide +kernel
theorem dl_1354 : decode code 1354 = .ok (.ireturn, 1) := by decide +kernel
theorem dl_1355 : decode code 1355 = .ok (.aload_n 1, 1) := by decide +kernel
theorem dl_1356 : decode code 1356 = .ok (.aload_n 0, 1) := by decide +kernel
theorem dl_1357 : decode code 1357 = .ok (.iload_n 3, 1) := by decide +kernel
theorem dl_1358 : decode code 1358 = .ok (.iconst 1, 1) := by decide +kernel
theorem dl_1359 : decode code 1359 = .ok (.iadd, 1) := by decide +kernel
theorem dl_1360 : decode code 1360 = .ok (.iaload, 1) := by decide +kernel
theorem dl_1361 : decode code 1361 = .ok (.invokevirtual 163, 3) := by decide +kernel
theorem dl_1364 : decode code 1364 = .ok (.aload_n 2, 1) := by decide +kernel
theorem dl_1365 : decode code 1365 = .ok (.aload_n 0, 1) := by decide +kernel
theorem dl_1366 : decode code 1366 = .ok (.iload_n 3, 1) := by decide +kernel
theorem dl_1367 : decode code 1367 = .ok (.iconst 1, 1) := by decide +kernel
theorem dl_1368 : decode code 1368 = .ok (.iadd, 1) := by decide +kernel
theorem dl_1369 : decode code 1369 = .ok (.iaload, 1) := by decide +kernel
theorem dl_1370 : decode code 1370 = .ok (.invokevirtual 166, 3) := by decide +kernel
theorem dl_1373 : decode code 1373 = .ok (.if_icmp .eq 652, 3) := by decide +kernel
theorem dl_1376 : decode code 1376 = .ok (.iconst 0, 1) := by decide +kernel
theorem dl_1377 : decode code 1377 = .ok (.ireturn, 1) := by decide +kernel
theorem dl_1378 : decode code 1378 = .ok (.aload_n 1, 1) := by decide +kernel
theorem dl_1379 : decode code 1379 = .ok (.aload_n 0, 1) := by decide +kernel
theorem dl_1380 : decode code 1380 = .ok (.iload_n 3, 1) := by decide +kernel
theorem dl_1381 : decode code 1381 = .ok (.iconst 1, 1) := by decide +kernel
theorem dl_1382 : decode code 1382 = .ok (.iadd, 1) := by decide +kernel
theorem dl_1383 : decode code 1383 = .ok (.iaload, 1) := by decide +kernel
theorem dl_1384 : decode code 1384 = .ok (.invokevirtual 167, 3) := by decide +kernel
theorem dl_1387 : decode code 1387 = .ok (.aload_n 2, 1) := by decide +kernel
theorem dl_1388 : decode code 1388 = .ok (.aload_n 0, 1) := by decide +kernel
theorem dl_1389 : decode code 1389 = .ok (.iload_n 3, 1) := by decide +kernel
theorem dl_1390 : decode code 1390 = .ok (.iconst 1, 1) := by decide +kernel
theorem dl_1391 : decode code 1391 = .ok (.iadd, 1) := by decide +kernel
theorem dl_1392 : decode code 1392 = .ok (.iaload, 1) := by decide +kernel
theorem dl_1393 : decode code 1393 = .ok (.invokevirtual 170, 3) := by decide +kernel
theorem dl_1396 : decode code 1396 = .ok (.if_icmp .eq 629, 3) := by decide +kernel
theorem dl_1399 : decode code 1399 = .ok (.iconst 0, 1) := by decide +kernel
theorem dl_1400 : decode code 1400 = .ok (.ireturn, 1) := by decide +kernel
theorem dl_1401 : decode code 1401 = .ok (.aload_n 1, 1) := by decide +kernel
theorem dl_1402 : decode code 1402 = .ok (.aload_n 0, 1) := by decide +kernel
theorem dl_1403 : decode code 1403 = .ok (.iload_n 3, 1) := by decide +kernel
theorem dl_1404 : decode code 1404 = .ok (.iconst 1, 1) := by decide +kernel
theorem dl_1405 : decode code 1405 = .ok (.iadd, 1) := by decide +kernel
theorem dl_1406 : decode code 1406 = .ok (.iaload, 1) := by decide +kernel
theorem dl_1407 : decode code 1407 = .ok (.aload_n 0, 1) := by decide +kernel
theorem dl_1408 : decode code 1408 = .ok (.iload_n 3, 1) := by decide +kernel
theorem dl_1409 : decode code 1409 = .ok (.iconst 2, 1) := by decide +kernel
theorem dl_1410 : decode code 1410 = .ok (.iadd, 1) := by decide +kernel
theorem dl_1411 : decode code 1411 = .ok (.iaload, 1) := by decide +kernel
theorem dl_1412 : decode code 1412 = .ok (.invokevirtual 171, 3) := by decide +kernel
theorem dl_1415 : decode code 1415 = .ok (.aload_n 2, 1) := by decide +kernel
theorem dl_1416 : decode code 1416 = .ok (.aload_n 0, 1) := by decide +kernel
theorem dl_1417 : decode code 1417 = .ok (.iload_n 3, 1) := by decide +kernel
theorem dl_1418 : decode code 1418 = .ok (.iconst 1, 1) := by decide +kernel
theorem dl_1419 : decode code 1419 = .ok (.iadd, 1) := by decide +kernel
theorem dl_1420 : decode code 1420 = .ok (.iaload, 1) := by decide +kernel
theorem dl_1421 : decode code 1421 = .ok (.aload_n 0, 1) := by decide +kernel
theorem dl_1422 : decode code 1422 = .ok (.iload_n 3, 1) := by decide +kernel
theorem dl_1423 : decode code 1423 = .ok (.iconst 2, 1) := by decide +kernel
theorem dl_1424 : decode code 1424 = .ok (.iadd, 1) := by decide +kernel
theorem dl_1425 : decode code 1425 = .ok (.iaload, 1) := by decide +kernel
theorem dl_1426 : decode code 1426 = .ok (.invokevirtual 174, 3) := by decide +kernel
theorem dl_1429 : decode code 1429 = .ok (.if_icmp .eq 596, 3) := by decide +kernel
theorem dl_1432 : decode code 1432 = .ok (.iconst 0, 1) := by decide +kernel
theorem dl_1433 : decode code 1433 = .ok (.ireturn, 1) := by decide +kernel
theorem dl_1434 : decode code 1434 = .ok (.aload_n 1, 1) := by decide +kernel
theorem dl_1435 : decode code 1435 = .ok (.aload_n 0, 1) := by decide +kernel
theorem dl_1436 : decode code 1436 = .ok (.iload_n 3, 1) := by decide +kernel
theorem dl_1437 : decode code 1437 = .ok (.iconst 1, 1) := by decide +kernel
theorem dl_1438 : decode code 1438 = .ok (.iadd, 1) := by decide +kernel
theorem dl_1439 : decode code 1439 = .ok (.iaload, 1) := by decide +kernel
theorem dl_1440 : decode code 1440 = .ok (.aload_n 0, 1) := by decide +kernel
theorem dl_1441 : decode code 1441 = .ok (.iload_n 3, 1) := by decide +kernel
theorem dl_1442 : decode code 1442 = .ok (.iconst 2, 1) := by decide +kernel
theorem dl_1443 : decode code 1443 = .ok (.iadd, 1) := by decide +kernel
theorem dl_1444 : decode code 1444 = .ok (.iaload, 1) := by decide +kernel
theorem dl_1445 : decode code 1445 = .ok (.invokevirtual 175, 3) := by decide +kernel
theorem dl_1448 : decode code 1448 = .ok (.aload_n 2, 1) := by decide +kernel
theorem dl_1449 : decode code 1449 = .ok (.aload_n 0, 1) := by decide +kernel
theorem dl_1450 : decode code 1450 = .ok (.iload_n 3, 1) := by decide +kernel
theorem dl_1451 : decode code 1451 = .ok (.iconst 1, 1) := by decide +kernel
theorem dl_1452 : decode code 1452 = .ok (.iadd, 1) := by decide +kernel
theorem dl_1453 : decode code 1453 = .ok (.iaload, 1) := by decide +kernel
theorem dl_1454 : decode code 1454 = .ok (.aload_n 0, 1) := by decide +kernel
theorem dl_1455 : decode code 1455 = .ok (.iload_n 3, 1) := by decide +kernel
theorem dl_1456 : decode code 1456 = .ok (.iconst 2, 1) := by decide +kernel
theorem dl_1457 : decode code 1457 = .ok (.iadd, 1) := by decide +kernel
theorem dl_1458 : decode code 1458 = .ok (.iaload, 1) := by decide +kernel
theorem dl_1459 : decode code 1459 = .ok (.invokevirtual 178, 3) := by decide +kernel
theorem dl_1462 : decode code 1462 = .ok (.if_icmp .eq 563, 3) := by decide +kernel
theorem dl_1465 : decode code 1465 = .ok (.iconst 0, 1) := by decide +kernel
theorem dl_1466 : decode code 1466 = .ok (.ireturn, 1) := by decide +kernel
theorem dl_1467 : decode code 1467 = .ok (.aload_n 1, 1) := by decide +kernel
theorem dl_1468 : decode code 1468 = .ok (.aload_n 0, 1) := by decide +kernel
theorem dl_1469 : decode code 1469 = .ok (.iload_n 3, 1) := by decide +kernel
theorem dl_1470 : decode code 1470 = .ok (.iconst 1, 1) := by decide +kernel
theorem dl_1471 : decode code 1471 = .ok (.iadd, 1) := by decide +kernel
theorem dl_1472 : decode code 1472 = .ok (.iaload, 1) := by decide +kernel
theorem dl_1473 : decode code 1473 = .ok (.aload_n 0, 1) := by decide +kernel
theorem dl_1474 : decode code 1474 = .ok (.iload_n 3, 1) := by decide +kernel
theorem dl_1475 : decode code 1475 = .ok (.iconst 2, 1) := by decide +kernel
theorem dl_1476 : decode code 1476 = .ok (.iadd, 1) := by decide +kernel
theorem dl_1477 : decode code 1477 = .ok (.iaload, 1) := by decide +kernel
theorem dl_1478 : decode code 1478 = .ok (.invokevirtual 179, 3) := by decide +kernel
theorem dl_1481 : decode code 1481 = .ok (.aload_n 2, 1) := by decide +kernel
theorem dl_1482 : decode code 1482 = .ok (.aload_n 0, 1) := by decide +kernel
theorem dl_1483 : decode code 1483 = .ok (.iload_n 3, 1) := by decide +kernel
theorem dl_1484 : decode code 1484 = .ok (.iconst 1, 1) := by decide +kernel
theorem dl_1485 : decode code 1485 = .ok (.iadd, 1) := by decide +kernel
theorem dl_1486 : decode code 1486 = .ok (.iaload, 1) := by decide +kernel
theorem dl_1487 : decode code 1487 = .ok (.aload_n 0, 1) := by decide +kernel
theorem dl_1488 : decode code 1488 = .ok (.iload_n 3, 1) := by decide +kernel
theorem dl_1489 : decode code 1489 = .ok (.iconst 2, 1) := by decide +kernel
theorem dl_1490 : decode code 1490 = .ok (.iadd, 1) := by decide +kernel
theorem dl_1491 : decode code 1491 = .ok (.iaload, 1) := by decide +kernel
theorem dl_1492 : decode code 1492 = .ok (.invokevirtual 182, 3) := by decide +kernel
theorem dl_1495 : decode code 1495 = .ok (.if_icmp .eq 530, 3) := by decide +kernel
theorem dl_1498 : decode code 1498 = .ok (.iconst 0, 1) := by decide +kernel
theorem dl_1499 : decode code 1499 = .ok (.ireturn, 1) := by decide +kernel
theorem dl_1500 : decode code 1500 = .ok (.aload_n 1, 1) := by decide +kernel
theorem dl_1501 : decode code 1501 = .ok (.invokevirtual 183, 3) := by decide +kernel
theorem dl_1504 : decode code 1504 = .ok (.aload_n 2, 1) := by decide +kernel
theorem dl_1505 : decode code 1505 = .ok (.invokevirtual 186, 3) := by decide +kernel
theorem dl_1508 : decode code 1508 = .ok (.if_icmp .eq 517, 3) := by decide +kernel
theorem dl_1511 : decode code 1511 = .ok (.iconst 0, 1) := by decide +kernel
theorem dl_1512 : decode code 1512 = .ok (.ireturn, 1) := by decide +kernel
theorem dl_1513 : decode code 1513 = .ok (.aload_n 1, 1) := by decide +kernel
theorem dl_1514 : decode code 1514 = .ok (.aload_n 0, 1) := by decide +kernel
theorem dl_1515 : decode code 1515 = .ok (.iload_n 3, 1) := by decide +kernel
theorem dl_1516 : decode code 1516 = .ok (.iconst 1, 1) := by decide +kernel
theorem dl_1517 : decode code 1517 = .ok (.iadd, 1) := by decide +kernel
