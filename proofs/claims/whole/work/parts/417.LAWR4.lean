/-! THE LAW: rows 4 (written by gen/glaw.py) -/
theorem dL_law_1251 : decode cL_law 1251 = .ok (.iconst 3, 1) := by decide +kernel
theorem dL_law_1252 : decode cL_law 1252 = .ok (.iadd, 1) := by decide +kernel
theorem dL_law_1253 : decode cL_law 1253 = .ok (.iaload, 1) := by decide +kernel
theorem dL_law_1254 : decode cL_law 1254 = .ok (.aload_n 0, 1) := by decide +kernel
theorem dL_law_1255 : decode cL_law 1255 = .ok (.iload 4, 2) := by decide +kernel
theorem dL_law_1257 : decode cL_law 1257 = .ok (.iconst 4, 1) := by decide +kernel
theorem dL_law_1258 : decode cL_law 1258 = .ok (.iadd, 1) := by decide +kernel
theorem dL_law_1259 : decode cL_law 1259 = .ok (.iaload, 1) := by decide +kernel
theorem dL_law_1260 : decode cL_law 1260 = .ok (.ifCond .eq 7, 3) := by decide +kernel
theorem dL_law_1263 : decode cL_law 1263 = .ok (.iconst 1, 1) := by decide +kernel
theorem dL_law_1264 : decode cL_law 1264 = .ok (.goto 4, 3) := by decide +kernel
theorem dL_law_1267 : decode cL_law 1267 = .ok (.iconst 0, 1) := by decide +kernel
theorem dL_law_1268 : decode cL_law 1268 = .ok (.invokevirtual 91, 3) := by decide +kernel
theorem dL_law_1271 : decode cL_law 1271 = .ok (.aload_n 2, 1) := by decide +kernel
theorem dL_law_1272 : decode cL_law 1272 = .ok (.aload_n 0, 1) := by decide +kernel
theorem dL_law_1273 : decode cL_law 1273 = .ok (.iload 4, 2) := by decide +kernel
theorem dL_law_1275 : decode cL_law 1275 = .ok (.iconst 1, 1) := by decide +kernel
theorem dL_law_1276 : decode cL_law 1276 = .ok (.iadd, 1) := by decide +kernel
theorem dL_law_1277 : decode cL_law 1277 = .ok (.iaload, 1) := by decide +kernel
theorem dL_law_1278 : decode cL_law 1278 = .ok (.aload_n 0, 1) := by decide +kernel
theorem dL_law_1279 : decode cL_law 1279 = .ok (.iload 4, 2) := by decide +kernel
theorem dL_law_1281 : decode cL_law 1281 = .ok (.iconst 2, 1) := by decide +kernel
theorem dL_law_1282 : decode cL_law 1282 = .ok (.iadd, 1) := by decide +kernel
theorem dL_law_1283 : decode cL_law 1283 = .ok (.iaload, 1) := by decide +kernel
theorem dL_law_1284 : decode cL_law 1284 = .ok (.aload_n 0, 1) := by decide +kernel
theorem dL_law_1285 : decode cL_law 1285 = .ok (.iload 4, 2) := by decide +kernel
theorem dL_law_1287 : decode cL_law 1287 = .ok (.iconst 3, 1) := by decide +kernel
theorem dL_law_1288 : decode cL_law 1288 = .ok (.iadd, 1) := by decide +kernel
theorem dL_law_1289 : decode cL_law 1289 = .ok (.iaload, 1) := by decide +kernel
theorem dL_law_1290 : decode cL_law 1290 = .ok (.aload_n 0, 1) := by decide +kernel
theorem dL_law_1291 : decode cL_law 1291 = .ok (.iload 4, 2) := by decide +kernel
theorem dL_law_1293 : decode cL_law 1293 = .ok (.iconst 4, 1) := by decide +kernel
theorem dL_law_1294 : decode cL_law 1294 = .ok (.iadd, 1) := by decide +kernel
theorem dL_law_1295 : decode cL_law 1295 = .ok (.iaload, 1) := by decide +kernel
theorem dL_law_1296 : decode cL_law 1296 = .ok (.ifCond .eq 7, 3) := by decide +kernel
theorem dL_law_1299 : decode cL_law 1299 = .ok (.iconst 1, 1) := by decide +kernel
theorem dL_law_1300 : decode cL_law 1300 = .ok (.goto 4, 3) := by decide +kernel
theorem dL_law_1303 : decode cL_law 1303 = .ok (.iconst 0, 1) := by decide +kernel
theorem dL_law_1304 : decode cL_law 1304 = .ok (.invokevirtual 95, 3) := by decide +kernel
theorem dL_law_1307 : decode cL_law 1307 = .ok (.lcmp, 1) := by decide +kernel
theorem dL_law_1308 : decode cL_law 1308 = .ok (.ifCond .eq 1066, 3) := by decide +kernel
theorem dL_law_1311 : decode cL_law 1311 = .ok (.iconst 0, 1) := by decide +kernel
theorem dL_law_1312 : decode cL_law 1312 = .ok (.ireturn, 1) := by decide +kernel
theorem dL_law_1313 : decode cL_law 1313 = .ok (.aload_n 1, 1) := by decide +kernel
theorem dL_law_1314 : decode cL_law 1314 = .ok (.aload_n 0, 1) := by decide +kernel
theorem dL_law_1315 : decode cL_law 1315 = .ok (.iload 4, 2) := by decide +kernel
theorem dL_law_1317 : decode cL_law 1317 = .ok (.iconst 1, 1) := by decide +kernel
theorem dL_law_1318 : decode cL_law 1318 = .ok (.iadd, 1) := by decide +kernel
theorem dL_law_1319 : decode cL_law 1319 = .ok (.iaload, 1) := by decide +kernel
theorem dL_law_1320 : decode cL_law 1320 = .ok (.aload_n 0, 1) := by decide +kernel
theorem dL_law_1321 : decode cL_law 1321 = .ok (.iload 4, 2) := by decide +kernel
theorem dL_law_1323 : decode cL_law 1323 = .ok (.iconst 2, 1) := by decide +kernel
theorem dL_law_1324 : decode cL_law 1324 = .ok (.iadd, 1) := by decide +kernel
theorem dL_law_1325 : decode cL_law 1325 = .ok (.iaload, 1) := by decide +kernel
theorem dL_law_1326 : decode cL_law 1326 = .ok (.aload_n 0, 1) := by decide +kernel
theorem dL_law_1327 : decode cL_law 1327 = .ok (.iload 4, 2) := by decide +kernel
theorem dL_law_1329 : decode cL_law 1329 = .ok (.iconst 3, 1) := by decide +kernel
theorem dL_law_1330 : decode cL_law 1330 = .ok (.iadd, 1) := by decide +kernel
theorem dL_law_1331 : decode cL_law 1331 = .ok (.iaload, 1) := by decide +kernel
theorem dL_law_1332 : decode cL_law 1332 = .ok (.aload_n 0, 1) := by decide +kernel
theorem dL_law_1333 : decode cL_law 1333 = .ok (.iload 4, 2) := by decide +kernel
theorem dL_law_1335 : decode cL_law 1335 = .ok (.iconst 4, 1) := by decide +kernel
theorem dL_law_1336 : decode cL_law 1336 = .ok (.iadd, 1) := by decide +kernel
theorem dL_law_1337 : decode cL_law 1337 = .ok (.iaload, 1) := by decide +kernel
theorem dL_law_1338 : decode cL_law 1338 = .ok (.aload_n 0, 1) := by decide +kernel
theorem dL_law_1339 : decode cL_law 1339 = .ok (.iload 4, 2) := by decide +kernel
theorem dL_law_1341 : decode cL_law 1341 = .ok (.iconst 5, 1) := by decide +kernel
theorem dL_law_1342 : decode cL_law 1342 = .ok (.iadd, 1) := by decide +kernel
theorem dL_law_1343 : decode cL_law 1343 = .ok (.iaload, 1) := by decide +kernel
theorem dL_law_1344 : decode cL_law 1344 = .ok (.ifCond .eq 7, 3) := by decide +kernel
theorem dL_law_1347 : decode cL_law 1347 = .ok (.iconst 1, 1) := by decide +kernel
theorem dL_law_1348 : decode cL_law 1348 = .ok (.goto 4, 3) := by decide +kernel
theorem dL_law_1351 : decode cL_law 1351 = .ok (.iconst 0, 1) := by decide +kernel
theorem dL_law_1352 : decode cL_law 1352 = .ok (.invokevirtual 96, 3) := by decide +kernel
theorem dL_law_1355 : decode cL_law 1355 = .ok (.aload_n 2, 1) := by decide +kernel
theorem dL_law_1356 : decode cL_law 1356 = .ok (.aload_n 0, 1) := by decide +kernel
theorem dL_law_1357 : decode cL_law 1357 = .ok (.iload 4, 2) := by decide +kernel
theorem dL_law_1359 : decode cL_law 1359 = .ok (.iconst 1, 1) := by decide +kernel
theorem dL_law_1360 : decode cL_law 1360 = .ok (.iadd, 1) := by decide +kernel
theorem dL_law_1361 : decode cL_law 1361 = .ok (.iaload, 1) := by decide +kernel
theorem dL_law_1362 : decode cL_law 1362 = .ok (.aload_n 0, 1) := by decide +kernel
theorem dL_law_1363 : decode cL_law 1363 = .ok (.iload 4, 2) := by decide +kernel
theorem dL_law_1365 : decode cL_law 1365 = .ok (.iconst 2, 1) := by decide +kernel
theorem dL_law_1366 : decode cL_law 1366 = .ok (.iadd, 1) := by decide +kernel
theorem dL_law_1367 : decode cL_law 1367 = .ok (.iaload, 1) := by decide +kernel
theorem dL_law_1368 : decode cL_law 1368 = .ok (.aload_n 0, 1) := by decide +kernel
theorem dL_law_1369 : decode cL_law 1369 = .ok (.iload 4, 2) := by decide +kernel
theorem dL_law_1371 : decode cL_law 1371 = .ok (.iconst 3, 1) := by decide +kernel
theorem dL_law_1372 : decode cL_law 1372 = .ok (.iadd, 1) := by decide +kernel
theorem dL_law_1373 : decode cL_law 1373 = .ok (.iaload, 1) := by decide +kernel
theorem dL_law_1374 : decode cL_law 1374 = .ok (.aload_n 0, 1) := by decide +kernel
theorem dL_law_1375 : decode cL_law 1375 = .ok (.iload 4, 2) := by decide +kernel
theorem dL_law_1377 : decode cL_law 1377 = .ok (.iconst 4, 1) := by decide +kernel
theorem dL_law_1378 : decode cL_law 1378 = .ok (.iadd, 1) := by decide +kernel
theorem dL_law_1379 : decode cL_law 1379 = .ok (.iaload, 1) := by decide +kernel
theorem dL_law_1380 : decode cL_law 1380 = .ok (.aload_n 0, 1) := by decide +kernel
theorem dL_law_1381 : decode cL_law 1381 = .ok (.iload 4, 2) := by decide +kernel
theorem dL_law_1383 : decode cL_law 1383 = .ok (.iconst 5, 1) := by decide +kernel
theorem dL_law_1384 : decode cL_law 1384 = .ok (.iadd, 1) := by decide +kernel
theorem dL_law_1385 : decode cL_law 1385 = .ok (.iaload, 1) := by decide +kernel
theorem dL_law_1386 : decode cL_law 1386 = .ok (.ifCond .eq 7, 3) := by decide +kernel
theorem dL_law_1389 : decode cL_law 1389 = .ok (.iconst 1, 1) := by decide +kernel
theorem dL_law_1390 : decode cL_law 1390 = .ok (.goto 4, 3) := by decide +kernel
theorem dL_law_1393 : decode cL_law 1393 = .ok (.iconst 0, 1) := by decide +kernel
theorem dL_law_1394 : decode cL_law 1394 = .ok (.invokevirtual 100, 3) := by decide +kernel
theorem dL_law_1397 : decode cL_law 1397 = .ok (.lcmp, 1) := by decide +kernel
theorem dL_law_1398 : decode cL_law 1398 = .ok (.ifCond .eq 976, 3) := by decide +kernel
theorem dL_law_1401 : decode cL_law 1401 = .ok (.iconst 0, 1) := by decide +kernel
theorem dL_law_1402 : decode cL_law 1402 = .ok (.ireturn, 1) := by decide +kernel
theorem dL_law_1403 : decode cL_law 1403 = .ok (.aload_n 1, 1) := by decide +kernel
theorem dL_law_1404 : decode cL_law 1404 = .ok (.aload_n 0, 1) := by decide +kernel
theorem dL_law_1405 : decode cL_law 1405 = .ok (.iload 4, 2) := by decide +kernel
theorem dL_law_1407 : decode cL_law 1407 = .ok (.iconst 1, 1) := by decide +kernel
theorem dL_law_1408 : decode cL_law 1408 = .ok (.iadd, 1) := by decide +kernel
theorem dL_law_1409 : decode cL_law 1409 = .ok (.iaload, 1) := by decide +kernel
theorem dL_law_1410 : decode cL_law 1410 = .ok (.aload_n 0, 1) := by decide +kernel
theorem dL_law_1411 : decode cL_law 1411 = .ok (.iload 4, 2) := by decide +kernel
theorem dL_law_1413 : decode cL_law 1413 = .ok (.iconst 2, 1) := by decide +kernel
theorem dL_law_1414 : decode cL_law 1414 = .ok (.iadd, 1) := by decide +kernel
theorem dL_law_1415 : decode cL_law 1415 = .ok (.iaload, 1) := by decide +kernel
theorem dL_law_1416 : decode cL_law 1416 = .ok (.aload_n 0, 1) := by decide +kernel
theorem dL_law_1417 : decode cL_law 1417 = .ok (.iload 4, 2) := by decide +kernel
theorem dL_law_1419 : decode cL_law 1419 = .ok (.iconst 3, 1) := by decide +kernel
theorem dL_law_1420 : decode cL_law 1420 = .ok (.iadd, 1) := by decide +kernel
theorem dL_law_1421 : decode cL_law 1421 = .ok (.iaload, 1) := by decide +kernel
theorem dL_law_1422 : decode cL_law 1422 = .ok (.invokevirtual 101, 3) := by decide +kernel
theorem dL_law_1425 : decode cL_law 1425 = .ok (.aload_n 2, 1) := by decide +kernel
theorem dL_law_1426 : decode cL_law 1426 = .ok (.aload_n 0, 1) := by decide +kernel
theorem dL_law_1427 : decode cL_law 1427 = .ok (.iload 4, 2) := by decide +kernel
theorem dL_law_1429 : decode cL_law 1429 = .ok (.iconst 1, 1) := by decide +kernel
theorem dL_law_1430 : decode cL_law 1430 = .ok (.iadd, 1) := by decide +kernel
theorem dL_law_1431 : decode cL_law 1431 = .ok (.iaload, 1) := by decide +kernel
theorem dL_law_1432 : decode cL_law 1432 = .ok (.aload_n 0, 1) := by decide +kernel
theorem dL_law_1433 : decode cL_law 1433 = .ok (.iload 4, 2) := by decide +kernel
theorem dL_law_1435 : decode cL_law 1435 = .ok (.iconst 2, 1) := by decide +kernel
theorem dL_law_1436 : decode cL_law 1436 = .ok (.iadd, 1) := by decide +kernel
theorem dL_law_1437 : decode cL_law 1437 = .ok (.iaload, 1) := by decide +kernel
theorem dL_law_1438 : decode cL_law 1438 = .ok (.aload_n 0, 1) := by decide +kernel
theorem dL_law_1439 : decode cL_law 1439 = .ok (.iload 4, 2) := by decide +kernel
theorem dL_law_1441 : decode cL_law 1441 = .ok (.iconst 3, 1) := by decide +kernel
theorem dL_law_1442 : decode cL_law 1442 = .ok (.iadd, 1) := by decide +kernel
theorem dL_law_1443 : decode cL_law 1443 = .ok (.iaload, 1) := by decide +kernel
theorem dL_law_1444 : decode cL_law 1444 = .ok (.invokevirtual 104, 3) := by decide +kernel
theorem dL_law_1447 : decode cL_law 1447 = .ok (.if_icmp .eq 927, 3) := by decide +kernel
theorem dL_law_1450 : decode cL_law 1450 = .ok (.iconst 0, 1) := by decide +kernel
theorem dL_law_1451 : decode cL_law 1451 = .ok (.ireturn, 1) := by decide +kernel
theorem dL_law_1452 : decode cL_law 1452 = .ok (.aload_n 1, 1) := by decide +kernel
theorem dL_law_1453 : decode cL_law 1453 = .ok (.aload_n 0, 1) := by decide +kernel
theorem dL_law_1454 : decode cL_law 1454 = .ok (.iload 4, 2) := by decide +kernel
theorem dL_law_1456 : decode cL_law 1456 = .ok (.iconst 1, 1) := by decide +kernel
theorem dL_law_1457 : decode cL_law 1457 = .ok (.iadd, 1) := by decide +kernel
theorem dL_law_1458 : decode cL_law 1458 = .ok (.iaload, 1) := by decide +kernel
theorem dL_law_1459 : decode cL_law 1459 = .ok (.aload_n 0, 1) := by decide +kernel
theorem dL_law_1460 : decode cL_law 1460 = .ok (.iload 4, 2) := by decide +kernel
theorem dL_law_1462 : decode cL_law 1462 = .ok (.iconst 2, 1) := by decide +kernel
theorem dL_law_1463 : decode cL_law 1463 = .ok (.iadd, 1) := by decide +kernel
theorem dL_law_1464 : decode cL_law 1464 = .ok (.iaload, 1) := by decide +kernel
theorem dL_law_1465 : decode cL_law 1465 = .ok (.aload_n 0, 1) := by decide +kernel
theorem dL_law_1466 : decode cL_law 1466 = .ok (.iload 4, 2) := by decide +kernel
theorem dL_law_1468 : decode cL_law 1468 = .ok (.iconst 3, 1) := by decide +kernel
theorem dL_law_1469 : decode cL_law 1469 = .ok (.iadd, 1) := by decide +kernel
theorem dL_law_1470 : decode cL_law 1470 = .ok (.iaload, 1) := by decide +kernel
theorem dL_law_1471 : decode cL_law 1471 = .ok (.aload_n 0, 1) := by decide +kernel
theorem dL_law_1472 : decode cL_law 1472 = .ok (.iload 4, 2) := by decide +kernel
theorem dL_law_1474 : decode cL_law 1474 = .ok (.iconst 4, 1) := by decide +kernel
theorem dL_law_1475 : decode cL_law 1475 = .ok (.iadd, 1) := by decide +kernel
theorem dL_law_1476 : decode cL_law 1476 = .ok (.iaload, 1) := by decide +kernel
theorem dL_law_1477 : decode cL_law 1477 = .ok (.aload_n 0, 1) := by decide +kernel
theorem dL_law_1478 : decode cL_law 1478 = .ok (.iload 4, 2) := by decide +kernel
theorem dL_law_1480 : decode cL_law 1480 = .ok (.iconst 5, 1) := by decide +kernel
theorem dL_law_1481 : decode cL_law 1481 = .ok (.iadd, 1) := by decide +kernel
theorem dL_law_1482 : decode cL_law 1482 = .ok (.iaload, 1) := by decide +kernel
theorem dL_law_1483 : decode cL_law 1483 = .ok (.ifCond .eq 7, 3) := by decide +kernel
theorem dL_law_1486 : decode cL_law 1486 = .ok (.iconst 1, 1) := by decide +kernel
theorem dL_law_1487 : decode cL_law 1487 = .ok (.goto 4, 3) := by decide +kernel
theorem dL_law_1490 : decode cL_law 1490 = .ok (.iconst 0, 1) := by decide +kernel
theorem dL_law_1491 : decode cL_law 1491 = .ok (.invokevirtual 105, 3) := by decide +kernel
theorem dL_law_1494 : decode cL_law 1494 = .ok (.aload_n 2, 1) := by decide +kernel
theorem dL_law_1495 : decode cL_law 1495 = .ok (.aload_n 0, 1) := by decide +kernel
theorem dL_law_1496 : decode cL_law 1496 = .ok (.iload 4, 2) := by decide +kernel
theorem dL_law_1498 : decode cL_law 1498 = .ok (.iconst 1, 1) := by decide +kernel
theorem dL_law_1499 : decode cL_law 1499 = .ok (.iadd, 1) := by decide +kernel
theorem dL_law_1500 : decode cL_law 1500 = .ok (.iaload, 1) := by decide +kernel
theorem dL_law_1501 : decode cL_law 1501 = .ok (.aload_n 0, 1) := by decide +kernel
theorem dL_law_1502 : decode cL_law 1502 = .ok (.iload 4, 2) := by decide +kernel
theorem dL_law_1504 : decode cL_law 1504 = .ok (.iconst 2, 1) := by decide +kernel
theorem dL_law_1505 : decode cL_law 1505 = .ok (.iadd, 1) := by decide +kernel
theorem dL_law_1506 : decode cL_law 1506 = .ok (.iaload, 1) := by decide +kernel
theorem dL_law_1507 : decode cL_law 1507 = .ok (.aload_n 0, 1) := by decide +kernel
theorem dL_law_1508 : decode cL_law 1508 = .ok (.iload 4, 2) := by decide +kernel
theorem dL_law_1510 : decode cL_law 1510 = .ok (.iconst 3, 1) := by decide +kernel
theorem dL_law_1511 : decode cL_law 1511 = .ok (.iadd, 1) := by decide +kernel
theorem dL_law_1512 : decode cL_law 1512 = .ok (.iaload, 1) := by decide +kernel
theorem dL_law_1513 : decode cL_law 1513 = .ok (.aload_n 0, 1) := by decide +kernel
theorem dL_law_1514 : decode cL_law 1514 = .ok (.iload 4, 2) := by decide +kernel
theorem dL_law_1516 : decode cL_law 1516 = .ok (.iconst 4, 1) := by decide +kernel
theorem dL_law_1517 : decode cL_law 1517 = .ok (.iadd, 1) := by decide +kernel
theorem dL_law_1518 : decode cL_law 1518 = .ok (.iaload, 1) := by decide +kernel
theorem dL_law_1519 : decode cL_law 1519 = .ok (.aload_n 0, 1) := by decide +kernel
theorem dL_law_1520 : decode cL_law 1520 = .ok (.iload 4, 2) := by decide +kernel
theorem dL_law_1522 : decode cL_law 1522 = .ok (.iconst 5, 1) := by decide +kernel
theorem dL_law_1523 : decode cL_law 1523 = .ok (.iadd, 1) := by decide +kernel
theorem dL_law_1524 : decode cL_law 1524 = .ok (.iaload, 1) := by decide +kernel
theorem dL_law_1525 : decode cL_law 1525 = .ok (.ifCond .eq 7, 3) := by decide +kernel
theorem dL_law_1528 : decode cL_law 1528 = .ok (.iconst 1, 1) := by decide +kernel
theorem dL_law_1529 : decode cL_law 1529 = .ok (.goto 4, 3) := by decide +kernel
theorem dL_law_1532 : decode cL_law 1532 = .ok (.iconst 0, 1) := by decide +kernel
theorem dL_law_1533 : decode cL_law 1533 = .ok (.invokevirtual 108, 3) := by decide +kernel
theorem dL_law_1536 : decode cL_law 1536 = .ok (.lcmp, 1) := by decide +kernel
theorem dL_law_1537 : decode cL_law 1537 = .ok (.ifCond .eq 837, 3) := by decide +kernel
theorem dL_law_1540 : decode cL_law 1540 = .ok (.iconst 0, 1) := by decide +kernel
theorem dL_law_1541 : decode cL_law 1541 = .ok (.ireturn, 1) := by decide +kernel
theorem dL_law_1542 : decode cL_law 1542 = .ok (.aload_n 1, 1) := by decide +kernel
theorem dL_law_1543 : decode cL_law 1543 = .ok (.aload_n 0, 1) := by decide +kernel
theorem dL_law_1544 : decode cL_law 1544 = .ok (.iload 4, 2) := by decide +kernel
theorem dL_law_1546 : decode cL_law 1546 = .ok (.iconst 1, 1) := by decide +kernel
theorem dL_law_1547 : decode cL_law 1547 = .ok (.iadd, 1) := by decide +kernel
theorem dL_law_1548 : decode cL_law 1548 = .ok (.iaload, 1) := by decide +kernel
theorem dL_law_1549 : decode cL_law 1549 = .ok (.aload_n 0, 1) := by decide +kernel
theorem dL_law_1550 : decode cL_law 1550 = .ok (.iload 4, 2) := by decide +kernel
theorem dL_law_1552 : decode cL_law 1552 = .ok (.iconst 2, 1) := by decide +kernel
theorem dL_law_1553 : decode cL_law 1553 = .ok (.iadd, 1) := by decide +kernel
theorem dL_law_1554 : decode cL_law 1554 = .ok (.iaload, 1) := by decide +kernel
theorem dL_law_1555 : decode cL_law 1555 = .ok (.aload_n 0, 1) := by decide +kernel
theorem dL_law_1556 : decode cL_law 1556 = .ok (.iload 4, 2) := by decide +kernel
theorem dL_law_1558 : decode cL_law 1558 = .ok (.iconst 3, 1) := by decide +kernel
theorem dL_law_1559 : decode cL_law 1559 = .ok (.iadd, 1) := by decide +kernel
theorem dL_law_1560 : decode cL_law 1560 = .ok (.iaload, 1) := by decide +kernel
theorem dL_law_1561 : decode cL_law 1561 = .ok (.invokevirtual 109, 3) := by decide +kernel
theorem dL_law_1564 : decode cL_law 1564 = .ok (.aload_n 2, 1) := by decide +kernel
theorem dL_law_1565 : decode cL_law 1565 = .ok (.aload_n 0, 1) := by decide +kernel
theorem dL_law_1566 : decode cL_law 1566 = .ok (.iload 4, 2) := by decide +kernel
theorem dL_law_1568 : decode cL_law 1568 = .ok (.iconst 1, 1) := by decide +kernel
theorem dL_law_1569 : decode cL_law 1569 = .ok (.iadd, 1) := by decide +kernel
theorem dL_law_1570 : decode cL_law 1570 = .ok (.iaload, 1) := by decide +kernel
theorem dL_law_1571 : decode cL_law 1571 = .ok (.aload_n 0, 1) := by decide +kernel
theorem dL_law_1572 : decode cL_law 1572 = .ok (.iload 4, 2) := by decide +kernel
theorem dL_law_1574 : decode cL_law 1574 = .ok (.iconst 2, 1) := by decide +kernel
theorem dL_law_1575 : decode cL_law 1575 = .ok (.iadd, 1) := by decide +kernel
theorem dL_law_1576 : decode cL_law 1576 = .ok (.iaload, 1) := by decide +kernel
theorem dL_law_1577 : decode cL_law 1577 = .ok (.aload_n 0, 1) := by decide +kernel
theorem dL_law_1578 : decode cL_law 1578 = .ok (.iload 4, 2) := by decide +kernel
theorem dL_law_1580 : decode cL_law 1580 = .ok (.iconst 3, 1) := by decide +kernel
theorem dL_law_1581 : decode cL_law 1581 = .ok (.iadd, 1) := by decide +kernel
theorem dL_law_1582 : decode cL_law 1582 = .ok (.iaload, 1) := by decide +kernel
theorem dL_law_1583 : decode cL_law 1583 = .ok (.invokevirtual 112, 3) := by decide +kernel
theorem dL_law_1586 : decode cL_law 1586 = .ok (.if_icmp .eq 788, 3) := by decide +kernel
theorem dL_law_1589 : decode cL_law 1589 = .ok (.iconst 0, 1) := by decide +kernel
theorem dL_law_1590 : decode cL_law 1590 = .ok (.ireturn, 1) := by decide +kernel
theorem dL_law_1591 : decode cL_law 1591 = .ok (.aload_n 1, 1) := by decide +kernel
theorem dL_law_1592 : decode cL_law 1592 = .ok (.aload_n 0, 1) := by decide +kernel
theorem dL_law_1593 : decode cL_law 1593 = .ok (.iload 4, 2) := by decide +kernel
theorem dL_law_1595 : decode cL_law 1595 = .ok (.iconst 1, 1) := by decide +kernel
theorem dL_law_1596 : decode cL_law 1596 = .ok (.iadd, 1) := by decide +kernel
theorem dL_law_1597 : decode cL_law 1597 = .ok (.iaload, 1) := by decide +kernel
theorem dL_law_1598 : decode cL_law 1598 = .ok (.invokevirtual 113, 3) := by decide +kernel
theorem dL_law_1601 : decode cL_law 1601 = .ok (.aload_n 2, 1) := by decide +kernel
theorem dL_law_1602 : decode cL_law 1602 = .ok (.aload_n 0, 1) := by decide +kernel
theorem dL_law_1603 : decode cL_law 1603 = .ok (.iload 4, 2) := by decide +kernel
theorem dL_law_1605 : decode cL_law 1605 = .ok (.iconst 1, 1) := by decide +kernel
theorem dL_law_1606 : decode cL_law 1606 = .ok (.iadd, 1) := by decide +kernel
theorem dL_law_1607 : decode cL_law 1607 = .ok (.iaload, 1) := by decide +kernel
theorem dL_law_1608 : decode cL_law 1608 = .ok (.invokevirtual 116, 3) := by decide +kernel
section
variable {X : ab_X} {f cl sl : Nat} {σ : ab_S} {Q : Option ab_V → ab_S → Prop} {L st : List ab_V} {a b z v i j n x1 x2 x3 x4 x5 x6 x7 x8 : Int} {l0 l1 l2 l3 l4 l5 l6 : ab_V}
theorem rL_law_1251 : ab_Run X 288 1251 (f, cl, sl) L st σ Q ↔ ab_Run X 288 1252 (f, cl, sl) L (ab_I 3 :: st) σ Q := ab_r_iconst (by decide) kc_L_law dL_law_1251
theorem rL_law_1252 : ab_Run X 288 1252 (f, cl, sl) L (ab_I b :: ab_I a :: st) σ Q ↔ ab_Run X 288 1253 (f, cl, sl) L (ab_I (ab_w32 (a + b)) :: st) σ Q := ab_r_iadd kc_L_law dL_law_1252
theorem rL_law_1253 : ab_Run X 288 1253 (f, cl, sl) L (ab_I i :: ab_R a :: st) σ Q ↔ (a = -1 ∧ 0 ≤ i ∧ i < X.1) ∧ ab_Run X 288 1254 (f, cl, sl) L (ab_I (X.2 i) :: st) σ Q := ab_r_ialoadX rfl kc_L_law dL_law_1253
theorem rL_law_1254 : ab_Run X 288 1254 (f, cl, sl) [ab_R z, l1, l2, l3, l4, l5, l6] st σ Q ↔ z ≠ 0 ∧ ab_Run X 288 1255 (f, cl, sl) [ab_R z, l1, l2, l3, l4, l5, l6] (ab_R z :: st) σ Q := ab_r_aload_n rfl kc_L_law dL_law_1254
theorem rL_law_1255 : ab_Run X 288 1255 (f, cl, sl) [l0, l1, l2, l3, ab_I z, l5, l6] st σ Q ↔ ab_Run X 288 1257 (f, cl, sl) [l0, l1, l2, l3, ab_I z, l5, l6] (ab_I z :: st) σ Q := ab_r_iload rfl kc_L_law dL_law_1255
theorem rL_law_1257 : ab_Run X 288 1257 (f, cl, sl) L st σ Q ↔ ab_Run X 288 1258 (f, cl, sl) L (ab_I 4 :: st) σ Q := ab_r_iconst (by decide) kc_L_law dL_law_1257
theorem rL_law_1258 : ab_Run X 288 1258 (f, cl, sl) L (ab_I b :: ab_I a :: st) σ Q ↔ ab_Run X 288 1259 (f, cl, sl) L (ab_I (ab_w32 (a + b)) :: st) σ Q := ab_r_iadd kc_L_law dL_law_1258
theorem rL_law_1259 : ab_Run X 288 1259 (f, cl, sl) L (ab_I i :: ab_R a :: st) σ Q ↔ (a = -1 ∧ 0 ≤ i ∧ i < X.1) ∧ ab_Run X 288 1260 (f, cl, sl) L (ab_I (X.2 i) :: st) σ Q := ab_r_ialoadX rfl kc_L_law dL_law_1259
theorem rL_law_1260 : ab_Run X 288 1260 (f, cl, sl) L (ab_I a :: st) σ Q ↔ (a = 0 → ab_Run X 288 1267 (f, cl, sl) L st σ Q) ∧ (¬ (a = 0) → ab_Run X 288 1263 (f, cl, sl) L st σ Q) := ab_r_if_eq rfl kc_L_law dL_law_1260
theorem rL_law_1263 : ab_Run X 288 1263 (f, cl, sl) L st σ Q ↔ ab_Run X 288 1264 (f, cl, sl) L (ab_I 1 :: st) σ Q := ab_r_iconst (by decide) kc_L_law dL_law_1263
theorem rL_law_1264 : ab_Run X 288 1264 (f, cl, sl) L st σ Q ↔ ab_Run X 288 1268 (f, cl, sl) L st σ Q := ab_r_goto rfl kc_L_law dL_law_1264
theorem rL_law_1267 : ab_Run X 288 1267 (f, cl, sl) L st σ Q ↔ ab_Run X 288 1268 (f, cl, sl) L (ab_I 0 :: st) σ Q := ab_r_iconst (by decide) kc_L_law dL_law_1267
theorem rL_law_1268 (h : 5 + 1 ≤ f ∧ 0 ≤ cl ∧ 0 ≤ sl) : ab_Run X 288 1268 (f, cl, sl) L (ab_I x4 :: ab_I x3 :: ab_I x2 :: ab_I x1 :: ab_R a :: st) σ Q ↔ ((ab_sh σ a).1 = 12 ∧ ab_cats st ≤ 8) ∧ ab_Do X 96 [ab_R a, ab_I x1, ab_I x2, ab_I x3, ab_I x4] σ (fun r σ' => ab_Run X 288 1271 (f, cl, sl) L (ab_psh r st) σ' Q) := ab_r_callV (w := [ab_I x4, ab_I x3, ab_I x2, ab_I x1]) (as := [ab_I x1, ab_I x2, ab_I x3, ab_I x4]) (b1 := (5, 0, 0)) 0 (Or.inl rfl) (by decide) ko_L_law qM_14_91 (by decide) rfl rfl rfl rfl rfl h (Nat.le_of_ble_eq_true rfl) kc_L_law dL_law_1268
theorem rL_law_1271 : ab_Run X 288 1271 (f, cl, sl) [l0, l1, ab_R z, l3, l4, l5, l6] st σ Q ↔ z ≠ 0 ∧ ab_Run X 288 1272 (f, cl, sl) [l0, l1, ab_R z, l3, l4, l5, l6] (ab_R z :: st) σ Q := ab_r_aload_n rfl kc_L_law dL_law_1271
theorem rL_law_1272 : ab_Run X 288 1272 (f, cl, sl) [ab_R z, l1, l2, l3, l4, l5, l6] st σ Q ↔ z ≠ 0 ∧ ab_Run X 288 1273 (f, cl, sl) [ab_R z, l1, l2, l3, l4, l5, l6] (ab_R z :: st) σ Q := ab_r_aload_n rfl kc_L_law dL_law_1272
theorem rL_law_1273 : ab_Run X 288 1273 (f, cl, sl) [l0, l1, l2, l3, ab_I z, l5, l6] st σ Q ↔ ab_Run X 288 1275 (f, cl, sl) [l0, l1, l2, l3, ab_I z, l5, l6] (ab_I z :: st) σ Q := ab_r_iload rfl kc_L_law dL_law_1273
theorem rL_law_1275 : ab_Run X 288 1275 (f, cl, sl) L st σ Q ↔ ab_Run X 288 1276 (f, cl, sl) L (ab_I 1 :: st) σ Q := ab_r_iconst (by decide) kc_L_law dL_law_1275
theorem rL_law_1276 : ab_Run X 288 1276 (f, cl, sl) L (ab_I b :: ab_I a :: st) σ Q ↔ ab_Run X 288 1277 (f, cl, sl) L (ab_I (ab_w32 (a + b)) :: st) σ Q := ab_r_iadd kc_L_law dL_law_1276
theorem rL_law_1277 : ab_Run X 288 1277 (f, cl, sl) L (ab_I i :: ab_R a :: st) σ Q ↔ (a = -1 ∧ 0 ≤ i ∧ i < X.1) ∧ ab_Run X 288 1278 (f, cl, sl) L (ab_I (X.2 i) :: st) σ Q := ab_r_ialoadX rfl kc_L_law dL_law_1277
theorem rL_law_1278 : ab_Run X 288 1278 (f, cl, sl) [ab_R z, l1, l2, l3, l4, l5, l6] st σ Q ↔ z ≠ 0 ∧ ab_Run X 288 1279 (f, cl, sl) [ab_R z, l1, l2, l3, l4, l5, l6] (ab_R z :: st) σ Q := ab_r_aload_n rfl kc_L_law dL_law_1278
theorem rL_law_1279 : ab_Run X 288 1279 (f, cl, sl) [l0, l1, l2, l3, ab_I z, l5, l6] st σ Q ↔ ab_Run X 288 1281 (f, cl, sl) [l0, l1, l2, l3, ab_I z, l5, l6] (ab_I z :: st) σ Q := ab_r_iload rfl kc_L_law dL_law_1279
theorem rL_law_1281 : ab_Run X 288 1281 (f, cl, sl) L st σ Q ↔ ab_Run X 288 1282 (f, cl, sl) L (ab_I 2 :: st) σ Q := ab_r_iconst (by decide) kc_L_law dL_law_1281
theorem rL_law_1282 : ab_Run X 288 1282 (f, cl, sl) L (ab_I b :: ab_I a :: st) σ Q ↔ ab_Run X 288 1283 (f, cl, sl) L (ab_I (ab_w32 (a + b)) :: st) σ Q := ab_r_iadd kc_L_law dL_law_1282
theorem rL_law_1283 : ab_Run X 288 1283 (f, cl, sl) L (ab_I i :: ab_R a :: st) σ Q ↔ (a = -1 ∧ 0 ≤ i ∧ i < X.1) ∧ ab_Run X 288 1284 (f, cl, sl) L (ab_I (X.2 i) :: st) σ Q := ab_r_ialoadX rfl kc_L_law dL_law_1283
theorem rL_law_1284 : ab_Run X 288 1284 (f, cl, sl) [ab_R z, l1, l2, l3, l4, l5, l6] st σ Q ↔ z ≠ 0 ∧ ab_Run X 288 1285 (f, cl, sl) [ab_R z, l1, l2, l3, l4, l5, l6] (ab_R z :: st) σ Q := ab_r_aload_n rfl kc_L_law dL_law_1284
theorem rL_law_1285 : ab_Run X 288 1285 (f, cl, sl) [l0, l1, l2, l3, ab_I z, l5, l6] st σ Q ↔ ab_Run X 288 1287 (f, cl, sl) [l0, l1, l2, l3, ab_I z, l5, l6] (ab_I z :: st) σ Q := ab_r_iload rfl kc_L_law dL_law_1285
theorem rL_law_1287 : ab_Run X 288 1287 (f, cl, sl) L st σ Q ↔ ab_Run X 288 1288 (f, cl, sl) L (ab_I 3 :: st) σ Q := ab_r_iconst (by decide) kc_L_law dL_law_1287
theorem rL_law_1288 : ab_Run X 288 1288 (f, cl, sl) L (ab_I b :: ab_I a :: st) σ Q ↔ ab_Run X 288 1289 (f, cl, sl) L (ab_I (ab_w32 (a + b)) :: st) σ Q := ab_r_iadd kc_L_law dL_law_1288
theorem rL_law_1289 : ab_Run X 288 1289 (f, cl, sl) L (ab_I i :: ab_R a :: st) σ Q ↔ (a = -1 ∧ 0 ≤ i ∧ i < X.1) ∧ ab_Run X 288 1290 (f, cl, sl) L (ab_I (X.2 i) :: st) σ Q := ab_r_ialoadX rfl kc_L_law dL_law_1289
theorem rL_law_1290 : ab_Run X 288 1290 (f, cl, sl) [ab_R z, l1, l2, l3, l4, l5, l6] st σ Q ↔ z ≠ 0 ∧ ab_Run X 288 1291 (f, cl, sl) [ab_R z, l1, l2, l3, l4, l5, l6] (ab_R z :: st) σ Q := ab_r_aload_n rfl kc_L_law dL_law_1290
theorem rL_law_1291 : ab_Run X 288 1291 (f, cl, sl) [l0, l1, l2, l3, ab_I z, l5, l6] st σ Q ↔ ab_Run X 288 1293 (f, cl, sl) [l0, l1, l2, l3, ab_I z, l5, l6] (ab_I z :: st) σ Q := ab_r_iload rfl kc_L_law dL_law_1291
theorem rL_law_1293 : ab_Run X 288 1293 (f, cl, sl) L st σ Q ↔ ab_Run X 288 1294 (f, cl, sl) L (ab_I 4 :: st) σ Q := ab_r_iconst (by decide) kc_L_law dL_law_1293
theorem rL_law_1294 : ab_Run X 288 1294 (f, cl, sl) L (ab_I b :: ab_I a :: st) σ Q ↔ ab_Run X 288 1295 (f, cl, sl) L (ab_I (ab_w32 (a + b)) :: st) σ Q := ab_r_iadd kc_L_law dL_law_1294
theorem rL_law_1295 : ab_Run X 288 1295 (f, cl, sl) L (ab_I i :: ab_R a :: st) σ Q ↔ (a = -1 ∧ 0 ≤ i ∧ i < X.1) ∧ ab_Run X 288 1296 (f, cl, sl) L (ab_I (X.2 i) :: st) σ Q := ab_r_ialoadX rfl kc_L_law dL_law_1295
theorem rL_law_1296 : ab_Run X 288 1296 (f, cl, sl) L (ab_I a :: st) σ Q ↔ (a = 0 → ab_Run X 288 1303 (f, cl, sl) L st σ Q) ∧ (¬ (a = 0) → ab_Run X 288 1299 (f, cl, sl) L st σ Q) := ab_r_if_eq rfl kc_L_law dL_law_1296
theorem rL_law_1299 : ab_Run X 288 1299 (f, cl, sl) L st σ Q ↔ ab_Run X 288 1300 (f, cl, sl) L (ab_I 1 :: st) σ Q := ab_r_iconst (by decide) kc_L_law dL_law_1299
theorem rL_law_1300 : ab_Run X 288 1300 (f, cl, sl) L st σ Q ↔ ab_Run X 288 1304 (f, cl, sl) L st σ Q := ab_r_goto rfl kc_L_law dL_law_1300
theorem rL_law_1303 : ab_Run X 288 1303 (f, cl, sl) L st σ Q ↔ ab_Run X 288 1304 (f, cl, sl) L (ab_I 0 :: st) σ Q := ab_r_iconst (by decide) kc_L_law dL_law_1303
theorem rL_law_1304 (h : 7 + 1 ≤ f ∧ 0 ≤ cl ∧ 0 ≤ sl) : ab_Run X 288 1304 (f, cl, sl) L (ab_I x4 :: ab_I x3 :: ab_I x2 :: ab_I x1 :: ab_R a :: st) σ Q ↔ ((ab_sh σ a).1 = 14 ∧ ab_cats st ≤ 8) ∧ ab_Do X 236 [ab_R a, ab_I x1, ab_I x2, ab_I x3, ab_I x4] σ (fun r σ' => ab_Run X 288 1307 (f, cl, sl) L (ab_psh r st) σ' Q) := ab_r_callV (w := [ab_I x4, ab_I x3, ab_I x2, ab_I x1]) (as := [ab_I x1, ab_I x2, ab_I x3, ab_I x4]) (b1 := (7, 0, 0)) 0 (Or.inl rfl) (by decide) ko_L_law qM_14_95 (by decide) rfl rfl rfl rfl rfl h (Nat.le_of_ble_eq_true rfl) kc_L_law dL_law_1304
theorem rL_law_1307 : ab_Run X 288 1307 (f, cl, sl) L (ab_J b :: ab_J a :: st) σ Q ↔ ab_Run X 288 1308 (f, cl, sl) L (ab_I (if b < a then 1 else if a = b then 0 else -1) :: st) σ Q := ab_r_lcmp kc_L_law dL_law_1307
theorem rL_law_1308 : ab_Run X 288 1308 (f, cl, sl) L (ab_I a :: st) σ Q ↔ (a = 0 → ab_Run X 288 2374 (f, cl, sl) L st σ Q) ∧ (¬ (a = 0) → ab_Run X 288 1311 (f, cl, sl) L st σ Q) := ab_r_if_eq rfl kc_L_law dL_law_1308
theorem rL_law_1311 : ab_Run X 288 1311 (f, cl, sl) L st σ Q ↔ ab_Run X 288 1312 (f, cl, sl) L (ab_I 0 :: st) σ Q := ab_r_iconst (by decide) kc_L_law dL_law_1311
theorem rL_law_1312 : ab_Run X 288 1312 (f, cl, sl) L [ab_I v] σ Q ↔ (v = 0 ∨ v = 1) ∧ Q (some (ab_I v)) σ := ab_r_ireturnZ rfl kc_L_law dL_law_1312
theorem rL_law_1313 : ab_Run X 288 1313 (f, cl, sl) [l0, ab_R z, l2, l3, l4, l5, l6] st σ Q ↔ z ≠ 0 ∧ ab_Run X 288 1314 (f, cl, sl) [l0, ab_R z, l2, l3, l4, l5, l6] (ab_R z :: st) σ Q := ab_r_aload_n rfl kc_L_law dL_law_1313
theorem rL_law_1314 : ab_Run X 288 1314 (f, cl, sl) [ab_R z, l1, l2, l3, l4, l5, l6] st σ Q ↔ z ≠ 0 ∧ ab_Run X 288 1315 (f, cl, sl) [ab_R z, l1, l2, l3, l4, l5, l6] (ab_R z :: st) σ Q := ab_r_aload_n rfl kc_L_law dL_law_1314
theorem rL_law_1315 : ab_Run X 288 1315 (f, cl, sl) [l0, l1, l2, l3, ab_I z, l5, l6] st σ Q ↔ ab_Run X 288 1317 (f, cl, sl) [l0, l1, l2, l3, ab_I z, l5, l6] (ab_I z :: st) σ Q := ab_r_iload rfl kc_L_law dL_law_1315
theorem rL_law_1317 : ab_Run X 288 1317 (f, cl, sl) L st σ Q ↔ ab_Run X 288 1318 (f, cl, sl) L (ab_I 1 :: st) σ Q := ab_r_iconst (by decide) kc_L_law dL_law_1317
theorem rL_law_1318 : ab_Run X 288 1318 (f, cl, sl) L (ab_I b :: ab_I a :: st) σ Q ↔ ab_Run X 288 1319 (f, cl, sl) L (ab_I (ab_w32 (a + b)) :: st) σ Q := ab_r_iadd kc_L_law dL_law_1318
theorem rL_law_1319 : ab_Run X 288 1319 (f, cl, sl) L (ab_I i :: ab_R a :: st) σ Q ↔ (a = -1 ∧ 0 ≤ i ∧ i < X.1) ∧ ab_Run X 288 1320 (f, cl, sl) L (ab_I (X.2 i) :: st) σ Q := ab_r_ialoadX rfl kc_L_law dL_law_1319
theorem rL_law_1320 : ab_Run X 288 1320 (f, cl, sl) [ab_R z, l1, l2, l3, l4, l5, l6] st σ Q ↔ z ≠ 0 ∧ ab_Run X 288 1321 (f, cl, sl) [ab_R z, l1, l2, l3, l4, l5, l6] (ab_R z :: st) σ Q := ab_r_aload_n rfl kc_L_law dL_law_1320
theorem rL_law_1321 : ab_Run X 288 1321 (f, cl, sl) [l0, l1, l2, l3, ab_I z, l5, l6] st σ Q ↔ ab_Run X 288 1323 (f, cl, sl) [l0, l1, l2, l3, ab_I z, l5, l6] (ab_I z :: st) σ Q := ab_r_iload rfl kc_L_law dL_law_1321
theorem rL_law_1323 : ab_Run X 288 1323 (f, cl, sl) L st σ Q ↔ ab_Run X 288 1324 (f, cl, sl) L (ab_I 2 :: st) σ Q := ab_r_iconst (by decide) kc_L_law dL_law_1323
theorem rL_law_1324 : ab_Run X 288 1324 (f, cl, sl) L (ab_I b :: ab_I a :: st) σ Q ↔ ab_Run X 288 1325 (f, cl, sl) L (ab_I (ab_w32 (a + b)) :: st) σ Q := ab_r_iadd kc_L_law dL_law_1324
theorem rL_law_1325 : ab_Run X 288 1325 (f, cl, sl) L (ab_I i :: ab_R a :: st) σ Q ↔ (a = -1 ∧ 0 ≤ i ∧ i < X.1) ∧ ab_Run X 288 1326 (f, cl, sl) L (ab_I (X.2 i) :: st) σ Q := ab_r_ialoadX rfl kc_L_law dL_law_1325
theorem rL_law_1326 : ab_Run X 288 1326 (f, cl, sl) [ab_R z, l1, l2, l3, l4, l5, l6] st σ Q ↔ z ≠ 0 ∧ ab_Run X 288 1327 (f, cl, sl) [ab_R z, l1, l2, l3, l4, l5, l6] (ab_R z :: st) σ Q := ab_r_aload_n rfl kc_L_law dL_law_1326
theorem rL_law_1327 : ab_Run X 288 1327 (f, cl, sl) [l0, l1, l2, l3, ab_I z, l5, l6] st σ Q ↔ ab_Run X 288 1329 (f, cl, sl) [l0, l1, l2, l3, ab_I z, l5, l6] (ab_I z :: st) σ Q := ab_r_iload rfl kc_L_law dL_law_1327
theorem rL_law_1329 : ab_Run X 288 1329 (f, cl, sl) L st σ Q ↔ ab_Run X 288 1330 (f, cl, sl) L (ab_I 3 :: st) σ Q := ab_r_iconst (by decide) kc_L_law dL_law_1329
theorem rL_law_1330 : ab_Run X 288 1330 (f, cl, sl) L (ab_I b :: ab_I a :: st) σ Q ↔ ab_Run X 288 1331 (f, cl, sl) L (ab_I (ab_w32 (a + b)) :: st) σ Q := ab_r_iadd kc_L_law dL_law_1330
theorem rL_law_1331 : ab_Run X 288 1331 (f, cl, sl) L (ab_I i :: ab_R a :: st) σ Q ↔ (a = -1 ∧ 0 ≤ i ∧ i < X.1) ∧ ab_Run X 288 1332 (f, cl, sl) L (ab_I (X.2 i) :: st) σ Q := ab_r_ialoadX rfl kc_L_law dL_law_1331
theorem rL_law_1332 : ab_Run X 288 1332 (f, cl, sl) [ab_R z, l1, l2, l3, l4, l5, l6] st σ Q ↔ z ≠ 0 ∧ ab_Run X 288 1333 (f, cl, sl) [ab_R z, l1, l2, l3, l4, l5, l6] (ab_R z :: st) σ Q := ab_r_aload_n rfl kc_L_law dL_law_1332
theorem rL_law_1333 : ab_Run X 288 1333 (f, cl, sl) [l0, l1, l2, l3, ab_I z, l5, l6] st σ Q ↔ ab_Run X 288 1335 (f, cl, sl) [l0, l1, l2, l3, ab_I z, l5, l6] (ab_I z :: st) σ Q := ab_r_iload rfl kc_L_law dL_law_1333
theorem rL_law_1335 : ab_Run X 288 1335 (f, cl, sl) L st σ Q ↔ ab_Run X 288 1336 (f, cl, sl) L (ab_I 4 :: st) σ Q := ab_r_iconst (by decide) kc_L_law dL_law_1335
theorem rL_law_1336 : ab_Run X 288 1336 (f, cl, sl) L (ab_I b :: ab_I a :: st) σ Q ↔ ab_Run X 288 1337 (f, cl, sl) L (ab_I (ab_w32 (a + b)) :: st) σ Q := ab_r_iadd kc_L_law dL_law_1336
theorem rL_law_1337 : ab_Run X 288 1337 (f, cl, sl) L (ab_I i :: ab_R a :: st) σ Q ↔ (a = -1 ∧ 0 ≤ i ∧ i < X.1) ∧ ab_Run X 288 1338 (f, cl, sl) L (ab_I (X.2 i) :: st) σ Q := ab_r_ialoadX rfl kc_L_law dL_law_1337
theorem rL_law_1338 : ab_Run X 288 1338 (f, cl, sl) [ab_R z, l1, l2, l3, l4, l5, l6] st σ Q ↔ z ≠ 0 ∧ ab_Run X 288 1339 (f, cl, sl) [ab_R z, l1, l2, l3, l4, l5, l6] (ab_R z :: st) σ Q := ab_r_aload_n rfl kc_L_law dL_law_1338
theorem rL_law_1339 : ab_Run X 288 1339 (f, cl, sl) [l0, l1, l2, l3, ab_I z, l5, l6] st σ Q ↔ ab_Run X 288 1341 (f, cl, sl) [l0, l1, l2, l3, ab_I z, l5, l6] (ab_I z :: st) σ Q := ab_r_iload rfl kc_L_law dL_law_1339
theorem rL_law_1341 : ab_Run X 288 1341 (f, cl, sl) L st σ Q ↔ ab_Run X 288 1342 (f, cl, sl) L (ab_I 5 :: st) σ Q := ab_r_iconst (by decide) kc_L_law dL_law_1341
theorem rL_law_1342 : ab_Run X 288 1342 (f, cl, sl) L (ab_I b :: ab_I a :: st) σ Q ↔ ab_Run X 288 1343 (f, cl, sl) L (ab_I (ab_w32 (a + b)) :: st) σ Q := ab_r_iadd kc_L_law dL_law_1342
theorem rL_law_1343 : ab_Run X 288 1343 (f, cl, sl) L (ab_I i :: ab_R a :: st) σ Q ↔ (a = -1 ∧ 0 ≤ i ∧ i < X.1) ∧ ab_Run X 288 1344 (f, cl, sl) L (ab_I (X.2 i) :: st) σ Q := ab_r_ialoadX rfl kc_L_law dL_law_1343
theorem rL_law_1344 : ab_Run X 288 1344 (f, cl, sl) L (ab_I a :: st) σ Q ↔ (a = 0 → ab_Run X 288 1351 (f, cl, sl) L st σ Q) ∧ (¬ (a = 0) → ab_Run X 288 1347 (f, cl, sl) L st σ Q) := ab_r_if_eq rfl kc_L_law dL_law_1344
theorem rL_law_1347 : ab_Run X 288 1347 (f, cl, sl) L st σ Q ↔ ab_Run X 288 1348 (f, cl, sl) L (ab_I 1 :: st) σ Q := ab_r_iconst (by decide) kc_L_law dL_law_1347
theorem rL_law_1348 : ab_Run X 288 1348 (f, cl, sl) L st σ Q ↔ ab_Run X 288 1352 (f, cl, sl) L st σ Q := ab_r_goto rfl kc_L_law dL_law_1348
theorem rL_law_1351 : ab_Run X 288 1351 (f, cl, sl) L st σ Q ↔ ab_Run X 288 1352 (f, cl, sl) L (ab_I 0 :: st) σ Q := ab_r_iconst (by decide) kc_L_law dL_law_1351
theorem rL_law_1352 (h : 5 + 1 ≤ f ∧ 0 ≤ cl ∧ 0 ≤ sl) : ab_Run X 288 1352 (f, cl, sl) L (ab_I x5 :: ab_I x4 :: ab_I x3 :: ab_I x2 :: ab_I x1 :: ab_R a :: st) σ Q ↔ ((ab_sh σ a).1 = 12 ∧ ab_cats st ≤ 8) ∧ ab_Do X 97 [ab_R a, ab_I x1, ab_I x2, ab_I x3, ab_I x4, ab_I x5] σ (fun r σ' => ab_Run X 288 1355 (f, cl, sl) L (ab_psh r st) σ' Q) := ab_r_callV (w := [ab_I x5, ab_I x4, ab_I x3, ab_I x2, ab_I x1]) (as := [ab_I x1, ab_I x2, ab_I x3, ab_I x4, ab_I x5]) (b1 := (5, 0, 0)) 0 (Or.inl rfl) (by decide) ko_L_law qM_14_96 (by decide) rfl rfl rfl rfl rfl h (Nat.le_of_ble_eq_true rfl) kc_L_law dL_law_1352
theorem rL_law_1355 : ab_Run X 288 1355 (f, cl, sl) [l0, l1, ab_R z, l3, l4, l5, l6] st σ Q ↔ z ≠ 0 ∧ ab_Run X 288 1356 (f, cl, sl) [l0, l1, ab_R z, l3, l4, l5, l6] (ab_R z :: st) σ Q := ab_r_aload_n rfl kc_L_law dL_law_1355
theorem rL_law_1356 : ab_Run X 288 1356 (f, cl, sl) [ab_R z, l1, l2, l3, l4, l5, l6] st σ Q ↔ z ≠ 0 ∧ ab_Run X 288 1357 (f, cl, sl) [ab_R z, l1, l2, l3, l4, l5, l6] (ab_R z :: st) σ Q := ab_r_aload_n rfl kc_L_law dL_law_1356
theorem rL_law_1357 : ab_Run X 288 1357 (f, cl, sl) [l0, l1, l2, l3, ab_I z, l5, l6] st σ Q ↔ ab_Run X 288 1359 (f, cl, sl) [l0, l1, l2, l3, ab_I z, l5, l6] (ab_I z :: st) σ Q := ab_r_iload rfl kc_L_law dL_law_1357
theorem rL_law_1359 : ab_Run X 288 1359 (f, cl, sl) L st σ Q ↔ ab_Run X 288 1360 (f, cl, sl) L (ab_I 1 :: st) σ Q := ab_r_iconst (by decide) kc_L_law dL_law_1359
theorem rL_law_1360 : ab_Run X 288 1360 (f, cl, sl) L (ab_I b :: ab_I a :: st) σ Q ↔ ab_Run X 288 1361 (f, cl, sl) L (ab_I (ab_w32 (a + b)) :: st) σ Q := ab_r_iadd kc_L_law dL_law_1360
theorem rL_law_1361 : ab_Run X 288 1361 (f, cl, sl) L (ab_I i :: ab_R a :: st) σ Q ↔ (a = -1 ∧ 0 ≤ i ∧ i < X.1) ∧ ab_Run X 288 1362 (f, cl, sl) L (ab_I (X.2 i) :: st) σ Q := ab_r_ialoadX rfl kc_L_law dL_law_1361
theorem rL_law_1362 : ab_Run X 288 1362 (f, cl, sl) [ab_R z, l1, l2, l3, l4, l5, l6] st σ Q ↔ z ≠ 0 ∧ ab_Run X 288 1363 (f, cl, sl) [ab_R z, l1, l2, l3, l4, l5, l6] (ab_R z :: st) σ Q := ab_r_aload_n rfl kc_L_law dL_law_1362
theorem rL_law_1363 : ab_Run X 288 1363 (f, cl, sl) [l0, l1, l2, l3, ab_I z, l5, l6] st σ Q ↔ ab_Run X 288 1365 (f, cl, sl) [l0, l1, l2, l3, ab_I z, l5, l6] (ab_I z :: st) σ Q := ab_r_iload rfl kc_L_law dL_law_1363
theorem rL_law_1365 : ab_Run X 288 1365 (f, cl, sl) L st σ Q ↔ ab_Run X 288 1366 (f, cl, sl) L (ab_I 2 :: st) σ Q := ab_r_iconst (by decide) kc_L_law dL_law_1365
theorem rL_law_1366 : ab_Run X 288 1366 (f, cl, sl) L (ab_I b :: ab_I a :: st) σ Q ↔ ab_Run X 288 1367 (f, cl, sl) L (ab_I (ab_w32 (a + b)) :: st) σ Q := ab_r_iadd kc_L_law dL_law_1366
theorem rL_law_1367 : ab_Run X 288 1367 (f, cl, sl) L (ab_I i :: ab_R a :: st) σ Q ↔ (a = -1 ∧ 0 ≤ i ∧ i < X.1) ∧ ab_Run X 288 1368 (f, cl, sl) L (ab_I (X.2 i) :: st) σ Q := ab_r_ialoadX rfl kc_L_law dL_law_1367
theorem rL_law_1368 : ab_Run X 288 1368 (f, cl, sl) [ab_R z, l1, l2, l3, l4, l5, l6] st σ Q ↔ z ≠ 0 ∧ ab_Run X 288 1369 (f, cl, sl) [ab_R z, l1, l2, l3, l4, l5, l6] (ab_R z :: st) σ Q := ab_r_aload_n rfl kc_L_law dL_law_1368
theorem rL_law_1369 : ab_Run X 288 1369 (f, cl, sl) [l0, l1, l2, l3, ab_I z, l5, l6] st σ Q ↔ ab_Run X 288 1371 (f, cl, sl) [l0, l1, l2, l3, ab_I z, l5, l6] (ab_I z :: st) σ Q := ab_r_iload rfl kc_L_law dL_law_1369
theorem rL_law_1371 : ab_Run X 288 1371 (f, cl, sl) L st σ Q ↔ ab_Run X 288 1372 (f, cl, sl) L (ab_I 3 :: st) σ Q := ab_r_iconst (by decide) kc_L_law dL_law_1371
theorem rL_law_1372 : ab_Run X 288 1372 (f, cl, sl) L (ab_I b :: ab_I a :: st) σ Q ↔ ab_Run X 288 1373 (f, cl, sl) L (ab_I (ab_w32 (a + b)) :: st) σ Q := ab_r_iadd kc_L_law dL_law_1372
theorem rL_law_1373 : ab_Run X 288 1373 (f, cl, sl) L (ab_I i :: ab_R a :: st) σ Q ↔ (a = -1 ∧ 0 ≤ i ∧ i < X.1) ∧ ab_Run X 288 1374 (f, cl, sl) L (ab_I (X.2 i) :: st) σ Q := ab_r_ialoadX rfl kc_L_law dL_law_1373
theorem rL_law_1374 : ab_Run X 288 1374 (f, cl, sl) [ab_R z, l1, l2, l3, l4, l5, l6] st σ Q ↔ z ≠ 0 ∧ ab_Run X 288 1375 (f, cl, sl) [ab_R z, l1, l2, l3, l4, l5, l6] (ab_R z :: st) σ Q := ab_r_aload_n rfl kc_L_law dL_law_1374
theorem rL_law_1375 : ab_Run X 288 1375 (f, cl, sl) [l0, l1, l2, l3, ab_I z, l5, l6] st σ Q ↔ ab_Run X 288 1377 (f, cl, sl) [l0, l1, l2, l3, ab_I z, l5, l6] (ab_I z :: st) σ Q := ab_r_iload rfl kc_L_law dL_law_1375
theorem rL_law_1377 : ab_Run X 288 1377 (f, cl, sl) L st σ Q ↔ ab_Run X 288 1378 (f, cl, sl) L (ab_I 4 :: st) σ Q := ab_r_iconst (by decide) kc_L_law dL_law_1377
theorem rL_law_1378 : ab_Run X 288 1378 (f, cl, sl) L (ab_I b :: ab_I a :: st) σ Q ↔ ab_Run X 288 1379 (f, cl, sl) L (ab_I (ab_w32 (a + b)) :: st) σ Q := ab_r_iadd kc_L_law dL_law_1378
theorem rL_law_1379 : ab_Run X 288 1379 (f, cl, sl) L (ab_I i :: ab_R a :: st) σ Q ↔ (a = -1 ∧ 0 ≤ i ∧ i < X.1) ∧ ab_Run X 288 1380 (f, cl, sl) L (ab_I (X.2 i) :: st) σ Q := ab_r_ialoadX rfl kc_L_law dL_law_1379
theorem rL_law_1380 : ab_Run X 288 1380 (f, cl, sl) [ab_R z, l1, l2, l3, l4, l5, l6] st σ Q ↔ z ≠ 0 ∧ ab_Run X 288 1381 (f, cl, sl) [ab_R z, l1, l2, l3, l4, l5, l6] (ab_R z :: st) σ Q := ab_r_aload_n rfl kc_L_law dL_law_1380
theorem rL_law_1381 : ab_Run X 288 1381 (f, cl, sl) [l0, l1, l2, l3, ab_I z, l5, l6] st σ Q ↔ ab_Run X 288 1383 (f, cl, sl) [l0, l1, l2, l3, ab_I z, l5, l6] (ab_I z :: st) σ Q := ab_r_iload rfl kc_L_law dL_law_1381
theorem rL_law_1383 : ab_Run X 288 1383 (f, cl, sl) L st σ Q ↔ ab_Run X 288 1384 (f, cl, sl) L (ab_I 5 :: st) σ Q := ab_r_iconst (by decide) kc_L_law dL_law_1383
theorem rL_law_1384 : ab_Run X 288 1384 (f, cl, sl) L (ab_I b :: ab_I a :: st) σ Q ↔ ab_Run X 288 1385 (f, cl, sl) L (ab_I (ab_w32 (a + b)) :: st) σ Q := ab_r_iadd kc_L_law dL_law_1384
theorem rL_law_1385 : ab_Run X 288 1385 (f, cl, sl) L (ab_I i :: ab_R a :: st) σ Q ↔ (a = -1 ∧ 0 ≤ i ∧ i < X.1) ∧ ab_Run X 288 1386 (f, cl, sl) L (ab_I (X.2 i) :: st) σ Q := ab_r_ialoadX rfl kc_L_law dL_law_1385
theorem rL_law_1386 : ab_Run X 288 1386 (f, cl, sl) L (ab_I a :: st) σ Q ↔ (a = 0 → ab_Run X 288 1393 (f, cl, sl) L st σ Q) ∧ (¬ (a = 0) → ab_Run X 288 1389 (f, cl, sl) L st σ Q) := ab_r_if_eq rfl kc_L_law dL_law_1386
theorem rL_law_1389 : ab_Run X 288 1389 (f, cl, sl) L st σ Q ↔ ab_Run X 288 1390 (f, cl, sl) L (ab_I 1 :: st) σ Q := ab_r_iconst (by decide) kc_L_law dL_law_1389
theorem rL_law_1390 : ab_Run X 288 1390 (f, cl, sl) L st σ Q ↔ ab_Run X 288 1394 (f, cl, sl) L st σ Q := ab_r_goto rfl kc_L_law dL_law_1390
theorem rL_law_1393 : ab_Run X 288 1393 (f, cl, sl) L st σ Q ↔ ab_Run X 288 1394 (f, cl, sl) L (ab_I 0 :: st) σ Q := ab_r_iconst (by decide) kc_L_law dL_law_1393
theorem rL_law_1394 (h : 7 + 1 ≤ f ∧ 0 ≤ cl ∧ 0 ≤ sl) : ab_Run X 288 1394 (f, cl, sl) L (ab_I x5 :: ab_I x4 :: ab_I x3 :: ab_I x2 :: ab_I x1 :: ab_R a :: st) σ Q ↔ ((ab_sh σ a).1 = 14 ∧ ab_cats st ≤ 8) ∧ ab_Do X 238 [ab_R a, ab_I x1, ab_I x2, ab_I x3, ab_I x4, ab_I x5] σ (fun r σ' => ab_Run X 288 1397 (f, cl, sl) L (ab_psh r st) σ' Q) := ab_r_callV (w := [ab_I x5, ab_I x4, ab_I x3, ab_I x2, ab_I x1]) (as := [ab_I x1, ab_I x2, ab_I x3, ab_I x4, ab_I x5]) (b1 := (7, 0, 0)) 0 (Or.inl rfl) (by decide) ko_L_law qM_14_100 (by decide) rfl rfl rfl rfl rfl h (Nat.le_of_ble_eq_true rfl) kc_L_law dL_law_1394
theorem rL_law_1397 : ab_Run X 288 1397 (f, cl, sl) L (ab_J b :: ab_J a :: st) σ Q ↔ ab_Run X 288 1398 (f, cl, sl) L (ab_I (if b < a then 1 else if a = b then 0 else -1) :: st) σ Q := ab_r_lcmp kc_L_law dL_law_1397
theorem rL_law_1398 : ab_Run X 288 1398 (f, cl, sl) L (ab_I a :: st) σ Q ↔ (a = 0 → ab_Run X 288 2374 (f, cl, sl) L st σ Q) ∧ (¬ (a = 0) → ab_Run X 288 1401 (f, cl, sl) L st σ Q) := ab_r_if_eq rfl kc_L_law dL_law_1398
theorem rL_law_1401 : ab_Run X 288 1401 (f, cl, sl) L st σ Q ↔ ab_Run X 288 1402 (f, cl, sl) L (ab_I 0 :: st) σ Q := ab_r_iconst (by decide) kc_L_law dL_law_1401
theorem rL_law_1402 : ab_Run X 288 1402 (f, cl, sl) L [ab_I v] σ Q ↔ (v = 0 ∨ v = 1) ∧ Q (some (ab_I v)) σ := ab_r_ireturnZ rfl kc_L_law dL_law_1402
theorem rL_law_1403 : ab_Run X 288 1403 (f, cl, sl) [l0, ab_R z, l2, l3, l4, l5, l6] st σ Q ↔ z ≠ 0 ∧ ab_Run X 288 1404 (f, cl, sl) [l0, ab_R z, l2, l3, l4, l5, l6] (ab_R z :: st) σ Q := ab_r_aload_n rfl kc_L_law dL_law_1403
theorem rL_law_1404 : ab_Run X 288 1404 (f, cl, sl) [ab_R z, l1, l2, l3, l4, l5, l6] st σ Q ↔ z ≠ 0 ∧ ab_Run X 288 1405 (f, cl, sl) [ab_R z, l1, l2, l3, l4, l5, l6] (ab_R z :: st) σ Q := ab_r_aload_n rfl kc_L_law dL_law_1404
theorem rL_law_1405 : ab_Run X 288 1405 (f, cl, sl) [l0, l1, l2, l3, ab_I z, l5, l6] st σ Q ↔ ab_Run X 288 1407 (f, cl, sl) [l0, l1, l2, l3, ab_I z, l5, l6] (ab_I z :: st) σ Q := ab_r_iload rfl kc_L_law dL_law_1405
theorem rL_law_1407 : ab_Run X 288 1407 (f, cl, sl) L st σ Q ↔ ab_Run X 288 1408 (f, cl, sl) L (ab_I 1 :: st) σ Q := ab_r_iconst (by decide) kc_L_law dL_law_1407
theorem rL_law_1408 : ab_Run X 288 1408 (f, cl, sl) L (ab_I b :: ab_I a :: st) σ Q ↔ ab_Run X 288 1409 (f, cl, sl) L (ab_I (ab_w32 (a + b)) :: st) σ Q := ab_r_iadd kc_L_law dL_law_1408
theorem rL_law_1409 : ab_Run X 288 1409 (f, cl, sl) L (ab_I i :: ab_R a :: st) σ Q ↔ (a = -1 ∧ 0 ≤ i ∧ i < X.1) ∧ ab_Run X 288 1410 (f, cl, sl) L (ab_I (X.2 i) :: st) σ Q := ab_r_ialoadX rfl kc_L_law dL_law_1409
theorem rL_law_1410 : ab_Run X 288 1410 (f, cl, sl) [ab_R z, l1, l2, l3, l4, l5, l6] st σ Q ↔ z ≠ 0 ∧ ab_Run X 288 1411 (f, cl, sl) [ab_R z, l1, l2, l3, l4, l5, l6] (ab_R z :: st) σ Q := ab_r_aload_n rfl kc_L_law dL_law_1410
theorem rL_law_1411 : ab_Run X 288 1411 (f, cl, sl) [l0, l1, l2, l3, ab_I z, l5, l6] st σ Q ↔ ab_Run X 288 1413 (f, cl, sl) [l0, l1, l2, l3, ab_I z, l5, l6] (ab_I z :: st) σ Q := ab_r_iload rfl kc_L_law dL_law_1411
theorem rL_law_1413 : ab_Run X 288 1413 (f, cl, sl) L st σ Q ↔ ab_Run X 288 1414 (f, cl, sl) L (ab_I 2 :: st) σ Q := ab_r_iconst (by decide) kc_L_law dL_law_1413
theorem rL_law_1414 : ab_Run X 288 1414 (f, cl, sl) L (ab_I b :: ab_I a :: st) σ Q ↔ ab_Run X 288 1415 (f, cl, sl) L (ab_I (ab_w32 (a + b)) :: st) σ Q := ab_r_iadd kc_L_law dL_law_1414
theorem rL_law_1415 : ab_Run X 288 1415 (f, cl, sl) L (ab_I i :: ab_R a :: st) σ Q ↔ (a = -1 ∧ 0 ≤ i ∧ i < X.1) ∧ ab_Run X 288 1416 (f, cl, sl) L (ab_I (X.2 i) :: st) σ Q := ab_r_ialoadX rfl kc_L_law dL_law_1415
theorem rL_law_1416 : ab_Run X 288 1416 (f, cl, sl) [ab_R z, l1, l2, l3, l4, l5, l6] st σ Q ↔ z ≠ 0 ∧ ab_Run X 288 1417 (f, cl, sl) [ab_R z, l1, l2, l3, l4, l5, l6] (ab_R z :: st) σ Q := ab_r_aload_n rfl kc_L_law dL_law_1416
theorem rL_law_1417 : ab_Run X 288 1417 (f, cl, sl) [l0, l1, l2, l3, ab_I z, l5, l6] st σ Q ↔ ab_Run X 288 1419 (f, cl, sl) [l0, l1, l2, l3, ab_I z, l5, l6] (ab_I z :: st) σ Q := ab_r_iload rfl kc_L_law dL_law_1417
theorem rL_law_1419 : ab_Run X 288 1419 (f, cl, sl) L st σ Q ↔ ab_Run X 288 1420 (f, cl, sl) L (ab_I 3 :: st) σ Q := ab_r_iconst (by decide) kc_L_law dL_law_1419
theorem rL_law_1420 : ab_Run X 288 1420 (f, cl, sl) L (ab_I b :: ab_I a :: st) σ Q ↔ ab_Run X 288 1421 (f, cl, sl) L (ab_I (ab_w32 (a + b)) :: st) σ Q := ab_r_iadd kc_L_law dL_law_1420
theorem rL_law_1421 : ab_Run X 288 1421 (f, cl, sl) L (ab_I i :: ab_R a :: st) σ Q ↔ (a = -1 ∧ 0 ≤ i ∧ i < X.1) ∧ ab_Run X 288 1422 (f, cl, sl) L (ab_I (X.2 i) :: st) σ Q := ab_r_ialoadX rfl kc_L_law dL_law_1421
theorem rL_law_1422 (h : 5 + 1 ≤ f ∧ 0 ≤ cl ∧ 0 ≤ sl) : ab_Run X 288 1422 (f, cl, sl) L (ab_I x3 :: ab_I x2 :: ab_I x1 :: ab_R a :: st) σ Q ↔ ((ab_sh σ a).1 = 12 ∧ ab_cats st ≤ 8) ∧ ab_Do X 98 [ab_R a, ab_I x1, ab_I x2, ab_I x3] σ (fun r σ' => ab_Run X 288 1425 (f, cl, sl) L (ab_psh r st) σ' Q) := ab_r_callV (w := [ab_I x3, ab_I x2, ab_I x1]) (as := [ab_I x1, ab_I x2, ab_I x3]) (b1 := (5, 0, 0)) 0 (Or.inl rfl) (by decide) ko_L_law qM_14_101 (by decide) rfl rfl rfl rfl rfl h (Nat.le_of_ble_eq_true rfl) kc_L_law dL_law_1422
theorem rL_law_1425 : ab_Run X 288 1425 (f, cl, sl) [l0, l1, ab_R z, l3, l4, l5, l6] st σ Q ↔ z ≠ 0 ∧ ab_Run X 288 1426 (f, cl, sl) [l0, l1, ab_R z, l3, l4, l5, l6] (ab_R z :: st) σ Q := ab_r_aload_n rfl kc_L_law dL_law_1425
theorem rL_law_1426 : ab_Run X 288 1426 (f, cl, sl) [ab_R z, l1, l2, l3, l4, l5, l6] st σ Q ↔ z ≠ 0 ∧ ab_Run X 288 1427 (f, cl, sl) [ab_R z, l1, l2, l3, l4, l5, l6] (ab_R z :: st) σ Q := ab_r_aload_n rfl kc_L_law dL_law_1426
theorem rL_law_1427 : ab_Run X 288 1427 (f, cl, sl) [l0, l1, l2, l3, ab_I z, l5, l6] st σ Q ↔ ab_Run X 288 1429 (f, cl, sl) [l0, l1, l2, l3, ab_I z, l5, l6] (ab_I z :: st) σ Q := ab_r_iload rfl kc_L_law dL_law_1427
theorem rL_law_1429 : ab_Run X 288 1429 (f, cl, sl) L st σ Q ↔ ab_Run X 288 1430 (f, cl, sl) L (ab_I 1 :: st) σ Q := ab_r_iconst (by decide) kc_L_law dL_law_1429
theorem rL_law_1430 : ab_Run X 288 1430 (f, cl, sl) L (ab_I b :: ab_I a :: st) σ Q ↔ ab_Run X 288 1431 (f, cl, sl) L (ab_I (ab_w32 (a + b)) :: st) σ Q := ab_r_iadd kc_L_law dL_law_1430
theorem rL_law_1431 : ab_Run X 288 1431 (f, cl, sl) L (ab_I i :: ab_R a :: st) σ Q ↔ (a = -1 ∧ 0 ≤ i ∧ i < X.1) ∧ ab_Run X 288 1432 (f, cl, sl) L (ab_I (X.2 i) :: st) σ Q := ab_r_ialoadX rfl kc_L_law dL_law_1431
theorem rL_law_1432 : ab_Run X 288 1432 (f, cl, sl) [ab_R z, l1, l2, l3, l4, l5, l6] st σ Q ↔ z ≠ 0 ∧ ab_Run X 288 1433 (f, cl, sl) [ab_R z, l1, l2, l3, l4, l5, l6] (ab_R z :: st) σ Q := ab_r_aload_n rfl kc_L_law dL_law_1432
theorem rL_law_1433 : ab_Run X 288 1433 (f, cl, sl) [l0, l1, l2, l3, ab_I z, l5, l6] st σ Q ↔ ab_Run X 288 1435 (f, cl, sl) [l0, l1, l2, l3, ab_I z, l5, l6] (ab_I z :: st) σ Q := ab_r_iload rfl kc_L_law dL_law_1433
theorem rL_law_1435 : ab_Run X 288 1435 (f, cl, sl) L st σ Q ↔ ab_Run X 288 1436 (f, cl, sl) L (ab_I 2 :: st) σ Q := ab_r_iconst (by decide) kc_L_law dL_law_1435
theorem rL_law_1436 : ab_Run X 288 1436 (f, cl, sl) L (ab_I b :: ab_I a :: st) σ Q ↔ ab_Run X 288 1437 (f, cl, sl) L (ab_I (ab_w32 (a + b)) :: st) σ Q := ab_r_iadd kc_L_law dL_law_1436
theorem rL_law_1437 : ab_Run X 288 1437 (f, cl, sl) L (ab_I i :: ab_R a :: st) σ Q ↔ (a = -1 ∧ 0 ≤ i ∧ i < X.1) ∧ ab_Run X 288 1438 (f, cl, sl) L (ab_I (X.2 i) :: st) σ Q := ab_r_ialoadX rfl kc_L_law dL_law_1437
theorem rL_law_1438 : ab_Run X 288 1438 (f, cl, sl) [ab_R z, l1, l2, l3, l4, l5, l6] st σ Q ↔ z ≠ 0 ∧ ab_Run X 288 1439 (f, cl, sl) [ab_R z, l1, l2, l3, l4, l5, l6] (ab_R z :: st) σ Q := ab_r_aload_n rfl kc_L_law dL_law_1438
theorem rL_law_1439 : ab_Run X 288 1439 (f, cl, sl) [l0, l1, l2, l3, ab_I z, l5, l6] st σ Q ↔ ab_Run X 288 1441 (f, cl, sl) [l0, l1, l2, l3, ab_I z, l5, l6] (ab_I z :: st) σ Q := ab_r_iload rfl kc_L_law dL_law_1439
theorem rL_law_1441 : ab_Run X 288 1441 (f, cl, sl) L st σ Q ↔ ab_Run X 288 1442 (f, cl, sl) L (ab_I 3 :: st) σ Q := ab_r_iconst (by decide) kc_L_law dL_law_1441
theorem rL_law_1442 : ab_Run X 288 1442 (f, cl, sl) L (ab_I b :: ab_I a :: st) σ Q ↔ ab_Run X 288 1443 (f, cl, sl) L (ab_I (ab_w32 (a + b)) :: st) σ Q := ab_r_iadd kc_L_law dL_law_1442
theorem rL_law_1443 : ab_Run X 288 1443 (f, cl, sl) L (ab_I i :: ab_R a :: st) σ Q ↔ (a = -1 ∧ 0 ≤ i ∧ i < X.1) ∧ ab_Run X 288 1444 (f, cl, sl) L (ab_I (X.2 i) :: st) σ Q := ab_r_ialoadX rfl kc_L_law dL_law_1443
theorem rL_law_1444 (h : 7 + 1 ≤ f ∧ 0 ≤ cl ∧ 0 ≤ sl) : ab_Run X 288 1444 (f, cl, sl) L (ab_I x3 :: ab_I x2 :: ab_I x1 :: ab_R a :: st) σ Q ↔ ((ab_sh σ a).1 = 14 ∧ ab_cats st ≤ 8) ∧ ab_Do X 239 [ab_R a, ab_I x1, ab_I x2, ab_I x3] σ (fun r σ' => ab_Run X 288 1447 (f, cl, sl) L (ab_psh r st) σ' Q) := ab_r_callV (w := [ab_I x3, ab_I x2, ab_I x1]) (as := [ab_I x1, ab_I x2, ab_I x3]) (b1 := (7, 0, 0)) 0 (Or.inl rfl) (by decide) ko_L_law qM_14_104 (by decide) rfl rfl rfl rfl rfl h (Nat.le_of_ble_eq_true rfl) kc_L_law dL_law_1444
theorem rL_law_1447 : ab_Run X 288 1447 (f, cl, sl) L (ab_I b :: ab_I a :: st) σ Q ↔ (a = b → ab_Run X 288 2374 (f, cl, sl) L st σ Q) ∧ (¬ (a = b) → ab_Run X 288 1450 (f, cl, sl) L st σ Q) := ab_r_icmp_eq rfl kc_L_law dL_law_1447
theorem rL_law_1450 : ab_Run X 288 1450 (f, cl, sl) L st σ Q ↔ ab_Run X 288 1451 (f, cl, sl) L (ab_I 0 :: st) σ Q := ab_r_iconst (by decide) kc_L_law dL_law_1450
theorem rL_law_1451 : ab_Run X 288 1451 (f, cl, sl) L [ab_I v] σ Q ↔ (v = 0 ∨ v = 1) ∧ Q (some (ab_I v)) σ := ab_r_ireturnZ rfl kc_L_law dL_law_1451
theorem rL_law_1452 : ab_Run X 288 1452 (f, cl, sl) [l0, ab_R z, l2, l3, l4, l5, l6] st σ Q ↔ z ≠ 0 ∧ ab_Run X 288 1453 (f, cl, sl) [l0, ab_R z, l2, l3, l4, l5, l6] (ab_R z :: st) σ Q := ab_r_aload_n rfl kc_L_law dL_law_1452
theorem rL_law_1453 : ab_Run X 288 1453 (f, cl, sl) [ab_R z, l1, l2, l3, l4, l5, l6] st σ Q ↔ z ≠ 0 ∧ ab_Run X 288 1454 (f, cl, sl) [ab_R z, l1, l2, l3, l4, l5, l6] (ab_R z :: st) σ Q := ab_r_aload_n rfl kc_L_law dL_law_1453
theorem rL_law_1454 : ab_Run X 288 1454 (f, cl, sl) [l0, l1, l2, l3, ab_I z, l5, l6] st σ Q ↔ ab_Run X 288 1456 (f, cl, sl) [l0, l1, l2, l3, ab_I z, l5, l6] (ab_I z :: st) σ Q := ab_r_iload rfl kc_L_law dL_law_1454
theorem rL_law_1456 : ab_Run X 288 1456 (f, cl, sl) L st σ Q ↔ ab_Run X 288 1457 (f, cl, sl) L (ab_I 1 :: st) σ Q := ab_r_iconst (by decide) kc_L_law dL_law_1456
theorem rL_law_1457 : ab_Run X 288 1457 (f, cl, sl) L (ab_I b :: ab_I a :: st) σ Q ↔ ab_Run X 288 1458 (f, cl, sl) L (ab_I (ab_w32 (a + b)) :: st) σ Q := ab_r_iadd kc_L_law dL_law_1457
theorem rL_law_1458 : ab_Run X 288 1458 (f, cl, sl) L (ab_I i :: ab_R a :: st) σ Q ↔ (a = -1 ∧ 0 ≤ i ∧ i < X.1) ∧ ab_Run X 288 1459 (f, cl, sl) L (ab_I (X.2 i) :: st) σ Q := ab_r_ialoadX rfl kc_L_law dL_law_1458
theorem rL_law_1459 : ab_Run X 288 1459 (f, cl, sl) [ab_R z, l1, l2, l3, l4, l5, l6] st σ Q ↔ z ≠ 0 ∧ ab_Run X 288 1460 (f, cl, sl) [ab_R z, l1, l2, l3, l4, l5, l6] (ab_R z :: st) σ Q := ab_r_aload_n rfl kc_L_law dL_law_1459
theorem rL_law_1460 : ab_Run X 288 1460 (f, cl, sl) [l0, l1, l2, l3, ab_I z, l5, l6] st σ Q ↔ ab_Run X 288 1462 (f, cl, sl) [l0, l1, l2, l3, ab_I z, l5, l6] (ab_I z :: st) σ Q := ab_r_iload rfl kc_L_law dL_law_1460
theorem rL_law_1462 : ab_Run X 288 1462 (f, cl, sl) L st σ Q ↔ ab_Run X 288 1463 (f, cl, sl) L (ab_I 2 :: st) σ Q := ab_r_iconst (by decide) kc_L_law dL_law_1462
theorem rL_law_1463 : ab_Run X 288 1463 (f, cl, sl) L (ab_I b :: ab_I a :: st) σ Q ↔ ab_Run X 288 1464 (f, cl, sl) L (ab_I (ab_w32 (a + b)) :: st) σ Q := ab_r_iadd kc_L_law dL_law_1463
theorem rL_law_1464 : ab_Run X 288 1464 (f, cl, sl) L (ab_I i :: ab_R a :: st) σ Q ↔ (a = -1 ∧ 0 ≤ i ∧ i < X.1) ∧ ab_Run X 288 1465 (f, cl, sl) L (ab_I (X.2 i) :: st) σ Q := ab_r_ialoadX rfl kc_L_law dL_law_1464
theorem rL_law_1465 : ab_Run X 288 1465 (f, cl, sl) [ab_R z, l1, l2, l3, l4, l5, l6] st σ Q ↔ z ≠ 0 ∧ ab_Run X 288 1466 (f, cl, sl) [ab_R z, l1, l2, l3, l4, l5, l6] (ab_R z :: st) σ Q := ab_r_aload_n rfl kc_L_law dL_law_1465
theorem rL_law_1466 : ab_Run X 288 1466 (f, cl, sl) [l0, l1, l2, l3, ab_I z, l5, l6] st σ Q ↔ ab_Run X 288 1468 (f, cl, sl) [l0, l1, l2, l3, ab_I z, l5, l6] (ab_I z :: st) σ Q := ab_r_iload rfl kc_L_law dL_law_1466
theorem rL_law_1468 : ab_Run X 288 1468 (f, cl, sl) L st σ Q ↔ ab_Run X 288 1469 (f, cl, sl) L (ab_I 3 :: st) σ Q := ab_r_iconst (by decide) kc_L_law dL_law_1468
theorem rL_law_1469 : ab_Run X 288 1469 (f, cl, sl) L (ab_I b :: ab_I a :: st) σ Q ↔ ab_Run X 288 1470 (f, cl, sl) L (ab_I (ab_w32 (a + b)) :: st) σ Q := ab_r_iadd kc_L_law dL_law_1469
theorem rL_law_1470 : ab_Run X 288 1470 (f, cl, sl) L (ab_I i :: ab_R a :: st) σ Q ↔ (a = -1 ∧ 0 ≤ i ∧ i < X.1) ∧ ab_Run X 288 1471 (f, cl, sl) L (ab_I (X.2 i) :: st) σ Q := ab_r_ialoadX rfl kc_L_law dL_law_1470
theorem rL_law_1471 : ab_Run X 288 1471 (f, cl, sl) [ab_R z, l1, l2, l3, l4, l5, l6] st σ Q ↔ z ≠ 0 ∧ ab_Run X 288 1472 (f, cl, sl) [ab_R z, l1, l2, l3, l4, l5, l6] (ab_R z :: st) σ Q := ab_r_aload_n rfl kc_L_law dL_law_1471
theorem rL_law_1472 : ab_Run X 288 1472 (f, cl, sl) [l0, l1, l2, l3, ab_I z, l5, l6] st σ Q ↔ ab_Run X 288 1474 (f, cl, sl) [l0, l1, l2, l3, ab_I z, l5, l6] (ab_I z :: st) σ Q := ab_r_iload rfl kc_L_law dL_law_1472
theorem rL_law_1474 : ab_Run X 288 1474 (f, cl, sl) L st σ Q ↔ ab_Run X 288 1475 (f, cl, sl) L (ab_I 4 :: st) σ Q := ab_r_iconst (by decide) kc_L_law dL_law_1474
theorem rL_law_1475 : ab_Run X 288 1475 (f, cl, sl) L (ab_I b :: ab_I a :: st) σ Q ↔ ab_Run X 288 1476 (f, cl, sl) L (ab_I (ab_w32 (a + b)) :: st) σ Q := ab_r_iadd kc_L_law dL_law_1475
theorem rL_law_1476 : ab_Run X 288 1476 (f, cl, sl) L (ab_I i :: ab_R a :: st) σ Q ↔ (a = -1 ∧ 0 ≤ i ∧ i < X.1) ∧ ab_Run X 288 1477 (f, cl, sl) L (ab_I (X.2 i) :: st) σ Q := ab_r_ialoadX rfl kc_L_law dL_law_1476
theorem rL_law_1477 : ab_Run X 288 1477 (f, cl, sl) [ab_R z, l1, l2, l3, l4, l5, l6] st σ Q ↔ z ≠ 0 ∧ ab_Run X 288 1478 (f, cl, sl) [ab_R z, l1, l2, l3, l4, l5, l6] (ab_R z :: st) σ Q := ab_r_aload_n rfl kc_L_law dL_law_1477
theorem rL_law_1478 : ab_Run X 288 1478 (f, cl, sl) [l0, l1, l2, l3, ab_I z, l5, l6] st σ Q ↔ ab_Run X 288 1480 (f, cl, sl) [l0, l1, l2, l3, ab_I z, l5, l6] (ab_I z :: st) σ Q := ab_r_iload rfl kc_L_law dL_law_1478
theorem rL_law_1480 : ab_Run X 288 1480 (f, cl, sl) L st σ Q ↔ ab_Run X 288 1481 (f, cl, sl) L (ab_I 5 :: st) σ Q := ab_r_iconst (by decide) kc_L_law dL_law_1480
theorem rL_law_1481 : ab_Run X 288 1481 (f, cl, sl) L (ab_I b :: ab_I a :: st) σ Q ↔ ab_Run X 288 1482 (f, cl, sl) L (ab_I (ab_w32 (a + b)) :: st) σ Q := ab_r_iadd kc_L_law dL_law_1481
theorem rL_law_1482 : ab_Run X 288 1482 (f, cl, sl) L (ab_I i :: ab_R a :: st) σ Q ↔ (a = -1 ∧ 0 ≤ i ∧ i < X.1) ∧ ab_Run X 288 1483 (f, cl, sl) L (ab_I (X.2 i) :: st) σ Q := ab_r_ialoadX rfl kc_L_law dL_law_1482
theorem rL_law_1483 : ab_Run X 288 1483 (f, cl, sl) L (ab_I a :: st) σ Q ↔ (a = 0 → ab_Run X 288 1490 (f, cl, sl) L st σ Q) ∧ (¬ (a = 0) → ab_Run X 288 1486 (f, cl, sl) L st σ Q) := ab_r_if_eq rfl kc_L_law dL_law_1483
theorem rL_law_1486 : ab_Run X 288 1486 (f, cl, sl) L st σ Q ↔ ab_Run X 288 1487 (f, cl, sl) L (ab_I 1 :: st) σ Q := ab_r_iconst (by decide) kc_L_law dL_law_1486
theorem rL_law_1487 : ab_Run X 288 1487 (f, cl, sl) L st σ Q ↔ ab_Run X 288 1491 (f, cl, sl) L st σ Q := ab_r_goto rfl kc_L_law dL_law_1487
theorem rL_law_1490 : ab_Run X 288 1490 (f, cl, sl) L st σ Q ↔ ab_Run X 288 1491 (f, cl, sl) L (ab_I 0 :: st) σ Q := ab_r_iconst (by decide) kc_L_law dL_law_1490
theorem rL_law_1491 (h : 5 + 1 ≤ f ∧ 0 ≤ cl ∧ 0 ≤ sl) : ab_Run X 288 1491 (f, cl, sl) L (ab_I x5 :: ab_I x4 :: ab_I x3 :: ab_I x2 :: ab_I x1 :: ab_R a :: st) σ Q ↔ ((ab_sh σ a).1 = 12 ∧ ab_cats st ≤ 8) ∧ ab_Do X 99 [ab_R a, ab_I x1, ab_I x2, ab_I x3, ab_I x4, ab_I x5] σ (fun r σ' => ab_Run X 288 1494 (f, cl, sl) L (ab_psh r st) σ' Q) := ab_r_callV (w := [ab_I x5, ab_I x4, ab_I x3, ab_I x2, ab_I x1]) (as := [ab_I x1, ab_I x2, ab_I x3, ab_I x4, ab_I x5]) (b1 := (5, 0, 0)) 0 (Or.inl rfl) (by decide) ko_L_law qM_14_105 (by decide) rfl rfl rfl rfl rfl h (Nat.le_of_ble_eq_true rfl) kc_L_law dL_law_1491
theorem rL_law_1494 : ab_Run X 288 1494 (f, cl, sl) [l0, l1, ab_R z, l3, l4, l5, l6] st σ Q ↔ z ≠ 0 ∧ ab_Run X 288 1495 (f, cl, sl) [l0, l1, ab_R z, l3, l4, l5, l6] (ab_R z :: st) σ Q := ab_r_aload_n rfl kc_L_law dL_law_1494
theorem rL_law_1495 : ab_Run X 288 1495 (f, cl, sl) [ab_R z, l1, l2, l3, l4, l5, l6] st σ Q ↔ z ≠ 0 ∧ ab_Run X 288 1496 (f, cl, sl) [ab_R z, l1, l2, l3, l4, l5, l6] (ab_R z :: st) σ Q := ab_r_aload_n rfl kc_L_law dL_law_1495
theorem rL_law_1496 : ab_Run X 288 1496 (f, cl, sl) [l0, l1, l2, l3, ab_I z, l5, l6] st σ Q ↔ ab_Run X 288 1498 (f, cl, sl) [l0, l1, l2, l3, ab_I z, l5, l6] (ab_I z :: st) σ Q := ab_r_iload rfl kc_L_law dL_law_1496
theorem rL_law_1498 : ab_Run X 288 1498 (f, cl, sl) L st σ Q ↔ ab_Run X 288 1499 (f, cl, sl) L (ab_I 1 :: st) σ Q := ab_r_iconst (by decide) kc_L_law dL_law_1498
theorem rL_law_1499 : ab_Run X 288 1499 (f, cl, sl) L (ab_I b :: ab_I a :: st) σ Q ↔ ab_Run X 288 1500 (f, cl, sl) L (ab_I (ab_w32 (a + b)) :: st) σ Q := ab_r_iadd kc_L_law dL_law_1499
theorem rL_law_1500 : ab_Run X 288 1500 (f, cl, sl) L (ab_I i :: ab_R a :: st) σ Q ↔ (a = -1 ∧ 0 ≤ i ∧ i < X.1) ∧ ab_Run X 288 1501 (f, cl, sl) L (ab_I (X.2 i) :: st) σ Q := ab_r_ialoadX rfl kc_L_law dL_law_1500
theorem rL_law_1501 : ab_Run X 288 1501 (f, cl, sl) [ab_R z, l1, l2, l3, l4, l5, l6] st σ Q ↔ z ≠ 0 ∧ ab_Run X 288 1502 (f, cl, sl) [ab_R z, l1, l2, l3, l4, l5, l6] (ab_R z :: st) σ Q := ab_r_aload_n rfl kc_L_law dL_law_1501
theorem rL_law_1502 : ab_Run X 288 1502 (f, cl, sl) [l0, l1, l2, l3, ab_I z, l5, l6] st σ Q ↔ ab_Run X 288 1504 (f, cl, sl) [l0, l1, l2, l3, ab_I z, l5, l6] (ab_I z :: st) σ Q := ab_r_iload rfl kc_L_law dL_law_1502
theorem rL_law_1504 : ab_Run X 288 1504 (f, cl, sl) L st σ Q ↔ ab_Run X 288 1505 (f, cl, sl) L (ab_I 2 :: st) σ Q := ab_r_iconst (by decide) kc_L_law dL_law_1504
theorem rL_law_1505 : ab_Run X 288 1505 (f, cl, sl) L (ab_I b :: ab_I a :: st) σ Q ↔ ab_Run X 288 1506 (f, cl, sl) L (ab_I (ab_w32 (a + b)) :: st) σ Q := ab_r_iadd kc_L_law dL_law_1505
theorem rL_law_1506 : ab_Run X 288 1506 (f, cl, sl) L (ab_I i :: ab_R a :: st) σ Q ↔ (a = -1 ∧ 0 ≤ i ∧ i < X.1) ∧ ab_Run X 288 1507 (f, cl, sl) L (ab_I (X.2 i) :: st) σ Q := ab_r_ialoadX rfl kc_L_law dL_law_1506
theorem rL_law_1507 : ab_Run X 288 1507 (f, cl, sl) [ab_R z, l1, l2, l3, l4, l5, l6] st σ Q ↔ z ≠ 0 ∧ ab_Run X 288 1508 (f, cl, sl) [ab_R z, l1, l2, l3, l4, l5, l6] (ab_R z :: st) σ Q := ab_r_aload_n rfl kc_L_law dL_law_1507
theorem rL_law_1508 : ab_Run X 288 1508 (f, cl, sl) [l0, l1, l2, l3, ab_I z, l5, l6] st σ Q ↔ ab_Run X 288 1510 (f, cl, sl) [l0, l1, l2, l3, ab_I z, l5, l6] (ab_I z :: st) σ Q := ab_r_iload rfl kc_L_law dL_law_1508
theorem rL_law_1510 : ab_Run X 288 1510 (f, cl, sl) L st σ Q ↔ ab_Run X 288 1511 (f, cl, sl) L (ab_I 3 :: st) σ Q := ab_r_iconst (by decide) kc_L_law dL_law_1510
theorem rL_law_1511 : ab_Run X 288 1511 (f, cl, sl) L (ab_I b :: ab_I a :: st) σ Q ↔ ab_Run X 288 1512 (f, cl, sl) L (ab_I (ab_w32 (a + b)) :: st) σ Q := ab_r_iadd kc_L_law dL_law_1511
theorem rL_law_1512 : ab_Run X 288 1512 (f, cl, sl) L (ab_I i :: ab_R a :: st) σ Q ↔ (a = -1 ∧ 0 ≤ i ∧ i < X.1) ∧ ab_Run X 288 1513 (f, cl, sl) L (ab_I (X.2 i) :: st) σ Q := ab_r_ialoadX rfl kc_L_law dL_law_1512
theorem rL_law_1513 : ab_Run X 288 1513 (f, cl, sl) [ab_R z, l1, l2, l3, l4, l5, l6] st σ Q ↔ z ≠ 0 ∧ ab_Run X 288 1514 (f, cl, sl) [ab_R z, l1, l2, l3, l4, l5, l6] (ab_R z :: st) σ Q := ab_r_aload_n rfl kc_L_law dL_law_1513
theorem rL_law_1514 : ab_Run X 288 1514 (f, cl, sl) [l0, l1, l2, l3, ab_I z, l5, l6] st σ Q ↔ ab_Run X 288 1516 (f, cl, sl) [l0, l1, l2, l3, ab_I z, l5, l6] (ab_I z :: st) σ Q := ab_r_iload rfl kc_L_law dL_law_1514
theorem rL_law_1516 : ab_Run X 288 1516 (f, cl, sl) L st σ Q ↔ ab_Run X 288 1517 (f, cl, sl) L (ab_I 4 :: st) σ Q := ab_r_iconst (by decide) kc_L_law dL_law_1516
theorem rL_law_1517 : ab_Run X 288 1517 (f, cl, sl) L (ab_I b :: ab_I a :: st) σ Q ↔ ab_Run X 288 1518 (f, cl, sl) L (ab_I (ab_w32 (a + b)) :: st) σ Q := ab_r_iadd kc_L_law dL_law_1517
theorem rL_law_1518 : ab_Run X 288 1518 (f, cl, sl) L (ab_I i :: ab_R a :: st) σ Q ↔ (a = -1 ∧ 0 ≤ i ∧ i < X.1) ∧ ab_Run X 288 1519 (f, cl, sl) L (ab_I (X.2 i) :: st) σ Q := ab_r_ialoadX rfl kc_L_law dL_law_1518
theorem rL_law_1519 : ab_Run X 288 1519 (f, cl, sl) [ab_R z, l1, l2, l3, l4, l5, l6] st σ Q ↔ z ≠ 0 ∧ ab_Run X 288 1520 (f, cl, sl) [ab_R z, l1, l2, l3, l4, l5, l6] (ab_R z :: st) σ Q := ab_r_aload_n rfl kc_L_law dL_law_1519
theorem rL_law_1520 : ab_Run X 288 1520 (f, cl, sl) [l0, l1, l2, l3, ab_I z, l5, l6] st σ Q ↔ ab_Run X 288 1522 (f, cl, sl) [l0, l1, l2, l3, ab_I z, l5, l6] (ab_I z :: st) σ Q := ab_r_iload rfl kc_L_law dL_law_1520
theorem rL_law_1522 : ab_Run X 288 1522 (f, cl, sl) L st σ Q ↔ ab_Run X 288 1523 (f, cl, sl) L (ab_I 5 :: st) σ Q := ab_r_iconst (by decide) kc_L_law dL_law_1522
theorem rL_law_1523 : ab_Run X 288 1523 (f, cl, sl) L (ab_I b :: ab_I a :: st) σ Q ↔ ab_Run X 288 1524 (f, cl, sl) L (ab_I (ab_w32 (a + b)) :: st) σ Q := ab_r_iadd kc_L_law dL_law_1523
theorem rL_law_1524 : ab_Run X 288 1524 (f, cl, sl) L (ab_I i :: ab_R a :: st) σ Q ↔ (a = -1 ∧ 0 ≤ i ∧ i < X.1) ∧ ab_Run X 288 1525 (f, cl, sl) L (ab_I (X.2 i) :: st) σ Q := ab_r_ialoadX rfl kc_L_law dL_law_1524
theorem rL_law_1525 : ab_Run X 288 1525 (f, cl, sl) L (ab_I a :: st) σ Q ↔ (a = 0 → ab_Run X 288 1532 (f, cl, sl) L st σ Q) ∧ (¬ (a = 0) → ab_Run X 288 1528 (f, cl, sl) L st σ Q) := ab_r_if_eq rfl kc_L_law dL_law_1525
theorem rL_law_1528 : ab_Run X 288 1528 (f, cl, sl) L st σ Q ↔ ab_Run X 288 1529 (f, cl, sl) L (ab_I 1 :: st) σ Q := ab_r_iconst (by decide) kc_L_law dL_law_1528
theorem rL_law_1529 : ab_Run X 288 1529 (f, cl, sl) L st σ Q ↔ ab_Run X 288 1533 (f, cl, sl) L st σ Q := ab_r_goto rfl kc_L_law dL_law_1529
theorem rL_law_1532 : ab_Run X 288 1532 (f, cl, sl) L st σ Q ↔ ab_Run X 288 1533 (f, cl, sl) L (ab_I 0 :: st) σ Q := ab_r_iconst (by decide) kc_L_law dL_law_1532
theorem rL_law_1533 (h : 9 + 1 ≤ f ∧ 0 ≤ cl ∧ 0 ≤ sl) : ab_Run X 288 1533 (f, cl, sl) L (ab_I x5 :: ab_I x4 :: ab_I x3 :: ab_I x2 :: ab_I x1 :: ab_R a :: st) σ Q ↔ ((ab_sh σ a).1 = 14 ∧ ab_cats st ≤ 8) ∧ ab_Do X 244 [ab_R a, ab_I x1, ab_I x2, ab_I x3, ab_I x4, ab_I x5] σ (fun r σ' => ab_Run X 288 1536 (f, cl, sl) L (ab_psh r st) σ' Q) := ab_r_callV (w := [ab_I x5, ab_I x4, ab_I x3, ab_I x2, ab_I x1]) (as := [ab_I x1, ab_I x2, ab_I x3, ab_I x4, ab_I x5]) (b1 := (9, 0, 0)) 0 (Or.inl rfl) (by decide) ko_L_law qM_14_108 (by decide) rfl rfl rfl rfl rfl h (Nat.le_of_ble_eq_true rfl) kc_L_law dL_law_1533
theorem rL_law_1536 : ab_Run X 288 1536 (f, cl, sl) L (ab_J b :: ab_J a :: st) σ Q ↔ ab_Run X 288 1537 (f, cl, sl) L (ab_I (if b < a then 1 else if a = b then 0 else -1) :: st) σ Q := ab_r_lcmp kc_L_law dL_law_1536
theorem rL_law_1537 : ab_Run X 288 1537 (f, cl, sl) L (ab_I a :: st) σ Q ↔ (a = 0 → ab_Run X 288 2374 (f, cl, sl) L st σ Q) ∧ (¬ (a = 0) → ab_Run X 288 1540 (f, cl, sl) L st σ Q) := ab_r_if_eq rfl kc_L_law dL_law_1537
theorem rL_law_1540 : ab_Run X 288 1540 (f, cl, sl) L st σ Q ↔ ab_Run X 288 1541 (f, cl, sl) L (ab_I 0 :: st) σ Q := ab_r_iconst (by decide) kc_L_law dL_law_1540
theorem rL_law_1541 : ab_Run X 288 1541 (f, cl, sl) L [ab_I v] σ Q ↔ (v = 0 ∨ v = 1) ∧ Q (some (ab_I v)) σ := ab_r_ireturnZ rfl kc_L_law dL_law_1541
theorem rL_law_1542 : ab_Run X 288 1542 (f, cl, sl) [l0, ab_R z, l2, l3, l4, l5, l6] st σ Q ↔ z ≠ 0 ∧ ab_Run X 288 1543 (f, cl, sl) [l0, ab_R z, l2, l3, l4, l5, l6] (ab_R z :: st) σ Q := ab_r_aload_n rfl kc_L_law dL_law_1542
theorem rL_law_1543 : ab_Run X 288 1543 (f, cl, sl) [ab_R z, l1, l2, l3, l4, l5, l6] st σ Q ↔ z ≠ 0 ∧ ab_Run X 288 1544 (f, cl, sl) [ab_R z, l1, l2, l3, l4, l5, l6] (ab_R z :: st) σ Q := ab_r_aload_n rfl kc_L_law dL_law_1543
theorem rL_law_1544 : ab_Run X 288 1544 (f, cl, sl) [l0, l1, l2, l3, ab_I z, l5, l6] st σ Q ↔ ab_Run X 288 1546 (f, cl, sl) [l0, l1, l2, l3, ab_I z, l5, l6] (ab_I z :: st) σ Q := ab_r_iload rfl kc_L_law dL_law_1544
theorem rL_law_1546 : ab_Run X 288 1546 (f, cl, sl) L st σ Q ↔ ab_Run X 288 1547 (f, cl, sl) L (ab_I 1 :: st) σ Q := ab_r_iconst (by decide) kc_L_law dL_law_1546
theorem rL_law_1547 : ab_Run X 288 1547 (f, cl, sl) L (ab_I b :: ab_I a :: st) σ Q ↔ ab_Run X 288 1548 (f, cl, sl) L (ab_I (ab_w32 (a + b)) :: st) σ Q := ab_r_iadd kc_L_law dL_law_1547
theorem rL_law_1548 : ab_Run X 288 1548 (f, cl, sl) L (ab_I i :: ab_R a :: st) σ Q ↔ (a = -1 ∧ 0 ≤ i ∧ i < X.1) ∧ ab_Run X 288 1549 (f, cl, sl) L (ab_I (X.2 i) :: st) σ Q := ab_r_ialoadX rfl kc_L_law dL_law_1548
theorem rL_law_1549 : ab_Run X 288 1549 (f, cl, sl) [ab_R z, l1, l2, l3, l4, l5, l6] st σ Q ↔ z ≠ 0 ∧ ab_Run X 288 1550 (f, cl, sl) [ab_R z, l1, l2, l3, l4, l5, l6] (ab_R z :: st) σ Q := ab_r_aload_n rfl kc_L_law dL_law_1549
theorem rL_law_1550 : ab_Run X 288 1550 (f, cl, sl) [l0, l1, l2, l3, ab_I z, l5, l6] st σ Q ↔ ab_Run X 288 1552 (f, cl, sl) [l0, l1, l2, l3, ab_I z, l5, l6] (ab_I z :: st) σ Q := ab_r_iload rfl kc_L_law dL_law_1550
theorem rL_law_1552 : ab_Run X 288 1552 (f, cl, sl) L st σ Q ↔ ab_Run X 288 1553 (f, cl, sl) L (ab_I 2 :: st) σ Q := ab_r_iconst (by decide) kc_L_law dL_law_1552
theorem rL_law_1553 : ab_Run X 288 1553 (f, cl, sl) L (ab_I b :: ab_I a :: st) σ Q ↔ ab_Run X 288 1554 (f, cl, sl) L (ab_I (ab_w32 (a + b)) :: st) σ Q := ab_r_iadd kc_L_law dL_law_1553
theorem rL_law_1554 : ab_Run X 288 1554 (f, cl, sl) L (ab_I i :: ab_R a :: st) σ Q ↔ (a = -1 ∧ 0 ≤ i ∧ i < X.1) ∧ ab_Run X 288 1555 (f, cl, sl) L (ab_I (X.2 i) :: st) σ Q := ab_r_ialoadX rfl kc_L_law dL_law_1554
theorem rL_law_1555 : ab_Run X 288 1555 (f, cl, sl) [ab_R z, l1, l2, l3, l4, l5, l6] st σ Q ↔ z ≠ 0 ∧ ab_Run X 288 1556 (f, cl, sl) [ab_R z, l1, l2, l3, l4, l5, l6] (ab_R z :: st) σ Q := ab_r_aload_n rfl kc_L_law dL_law_1555
theorem rL_law_1556 : ab_Run X 288 1556 (f, cl, sl) [l0, l1, l2, l3, ab_I z, l5, l6] st σ Q ↔ ab_Run X 288 1558 (f, cl, sl) [l0, l1, l2, l3, ab_I z, l5, l6] (ab_I z :: st) σ Q := ab_r_iload rfl kc_L_law dL_law_1556
theorem rL_law_1558 : ab_Run X 288 1558 (f, cl, sl) L st σ Q ↔ ab_Run X 288 1559 (f, cl, sl) L (ab_I 3 :: st) σ Q := ab_r_iconst (by decide) kc_L_law dL_law_1558
theorem rL_law_1559 : ab_Run X 288 1559 (f, cl, sl) L (ab_I b :: ab_I a :: st) σ Q ↔ ab_Run X 288 1560 (f, cl, sl) L (ab_I (ab_w32 (a + b)) :: st) σ Q := ab_r_iadd kc_L_law dL_law_1559
theorem rL_law_1560 : ab_Run X 288 1560 (f, cl, sl) L (ab_I i :: ab_R a :: st) σ Q ↔ (a = -1 ∧ 0 ≤ i ∧ i < X.1) ∧ ab_Run X 288 1561 (f, cl, sl) L (ab_I (X.2 i) :: st) σ Q := ab_r_ialoadX rfl kc_L_law dL_law_1560
theorem rL_law_1561 (h : 5 + 1 ≤ f ∧ 0 ≤ cl ∧ 0 ≤ sl) : ab_Run X 288 1561 (f, cl, sl) L (ab_I x3 :: ab_I x2 :: ab_I x1 :: ab_R a :: st) σ Q ↔ ((ab_sh σ a).1 = 12 ∧ ab_cats st ≤ 8) ∧ ab_Do X 100 [ab_R a, ab_I x1, ab_I x2, ab_I x3] σ (fun r σ' => ab_Run X 288 1564 (f, cl, sl) L (ab_psh r st) σ' Q) := ab_r_callV (w := [ab_I x3, ab_I x2, ab_I x1]) (as := [ab_I x1, ab_I x2, ab_I x3]) (b1 := (5, 0, 0)) 0 (Or.inl rfl) (by decide) ko_L_law qM_14_109 (by decide) rfl rfl rfl rfl rfl h (Nat.le_of_ble_eq_true rfl) kc_L_law dL_law_1561
theorem rL_law_1564 : ab_Run X 288 1564 (f, cl, sl) [l0, l1, ab_R z, l3, l4, l5, l6] st σ Q ↔ z ≠ 0 ∧ ab_Run X 288 1565 (f, cl, sl) [l0, l1, ab_R z, l3, l4, l5, l6] (ab_R z :: st) σ Q := ab_r_aload_n rfl kc_L_law dL_law_1564
theorem rL_law_1565 : ab_Run X 288 1565 (f, cl, sl) [ab_R z, l1, l2, l3, l4, l5, l6] st σ Q ↔ z ≠ 0 ∧ ab_Run X 288 1566 (f, cl, sl) [ab_R z, l1, l2, l3, l4, l5, l6] (ab_R z :: st) σ Q := ab_r_aload_n rfl kc_L_law dL_law_1565
theorem rL_law_1566 : ab_Run X 288 1566 (f, cl, sl) [l0, l1, l2, l3, ab_I z, l5, l6] st σ Q ↔ ab_Run X 288 1568 (f, cl, sl) [l0, l1, l2, l3, ab_I z, l5, l6] (ab_I z :: st) σ Q := ab_r_iload rfl kc_L_law dL_law_1566
theorem rL_law_1568 : ab_Run X 288 1568 (f, cl, sl) L st σ Q ↔ ab_Run X 288 1569 (f, cl, sl) L (ab_I 1 :: st) σ Q := ab_r_iconst (by decide) kc_L_law dL_law_1568
theorem rL_law_1569 : ab_Run X 288 1569 (f, cl, sl) L (ab_I b :: ab_I a :: st) σ Q ↔ ab_Run X 288 1570 (f, cl, sl) L (ab_I (ab_w32 (a + b)) :: st) σ Q := ab_r_iadd kc_L_law dL_law_1569
theorem rL_law_1570 : ab_Run X 288 1570 (f, cl, sl) L (ab_I i :: ab_R a :: st) σ Q ↔ (a = -1 ∧ 0 ≤ i ∧ i < X.1) ∧ ab_Run X 288 1571 (f, cl, sl) L (ab_I (X.2 i) :: st) σ Q := ab_r_ialoadX rfl kc_L_law dL_law_1570
theorem rL_law_1571 : ab_Run X 288 1571 (f, cl, sl) [ab_R z, l1, l2, l3, l4, l5, l6] st σ Q ↔ z ≠ 0 ∧ ab_Run X 288 1572 (f, cl, sl) [ab_R z, l1, l2, l3, l4, l5, l6] (ab_R z :: st) σ Q := ab_r_aload_n rfl kc_L_law dL_law_1571
theorem rL_law_1572 : ab_Run X 288 1572 (f, cl, sl) [l0, l1, l2, l3, ab_I z, l5, l6] st σ Q ↔ ab_Run X 288 1574 (f, cl, sl) [l0, l1, l2, l3, ab_I z, l5, l6] (ab_I z :: st) σ Q := ab_r_iload rfl kc_L_law dL_law_1572
theorem rL_law_1574 : ab_Run X 288 1574 (f, cl, sl) L st σ Q ↔ ab_Run X 288 1575 (f, cl, sl) L (ab_I 2 :: st) σ Q := ab_r_iconst (by decide) kc_L_law dL_law_1574
theorem rL_law_1575 : ab_Run X 288 1575 (f, cl, sl) L (ab_I b :: ab_I a :: st) σ Q ↔ ab_Run X 288 1576 (f, cl, sl) L (ab_I (ab_w32 (a + b)) :: st) σ Q := ab_r_iadd kc_L_law dL_law_1575
theorem rL_law_1576 : ab_Run X 288 1576 (f, cl, sl) L (ab_I i :: ab_R a :: st) σ Q ↔ (a = -1 ∧ 0 ≤ i ∧ i < X.1) ∧ ab_Run X 288 1577 (f, cl, sl) L (ab_I (X.2 i) :: st) σ Q := ab_r_ialoadX rfl kc_L_law dL_law_1576
theorem rL_law_1577 : ab_Run X 288 1577 (f, cl, sl) [ab_R z, l1, l2, l3, l4, l5, l6] st σ Q ↔ z ≠ 0 ∧ ab_Run X 288 1578 (f, cl, sl) [ab_R z, l1, l2, l3, l4, l5, l6] (ab_R z :: st) σ Q := ab_r_aload_n rfl kc_L_law dL_law_1577
theorem rL_law_1578 : ab_Run X 288 1578 (f, cl, sl) [l0, l1, l2, l3, ab_I z, l5, l6] st σ Q ↔ ab_Run X 288 1580 (f, cl, sl) [l0, l1, l2, l3, ab_I z, l5, l6] (ab_I z :: st) σ Q := ab_r_iload rfl kc_L_law dL_law_1578
theorem rL_law_1580 : ab_Run X 288 1580 (f, cl, sl) L st σ Q ↔ ab_Run X 288 1581 (f, cl, sl) L (ab_I 3 :: st) σ Q := ab_r_iconst (by decide) kc_L_law dL_law_1580
theorem rL_law_1581 : ab_Run X 288 1581 (f, cl, sl) L (ab_I b :: ab_I a :: st) σ Q ↔ ab_Run X 288 1582 (f, cl, sl) L (ab_I (ab_w32 (a + b)) :: st) σ Q := ab_r_iadd kc_L_law dL_law_1581
theorem rL_law_1582 : ab_Run X 288 1582 (f, cl, sl) L (ab_I i :: ab_R a :: st) σ Q ↔ (a = -1 ∧ 0 ≤ i ∧ i < X.1) ∧ ab_Run X 288 1583 (f, cl, sl) L (ab_I (X.2 i) :: st) σ Q := ab_r_ialoadX rfl kc_L_law dL_law_1582
theorem rL_law_1583 (h : 10 + 1 ≤ f ∧ 0 ≤ cl ∧ 0 ≤ sl) : ab_Run X 288 1583 (f, cl, sl) L (ab_I x3 :: ab_I x2 :: ab_I x1 :: ab_R a :: st) σ Q ↔ ((ab_sh σ a).1 = 14 ∧ ab_cats st ≤ 8) ∧ ab_Do X 246 [ab_R a, ab_I x1, ab_I x2, ab_I x3] σ (fun r σ' => ab_Run X 288 1586 (f, cl, sl) L (ab_psh r st) σ' Q) := ab_r_callV (w := [ab_I x3, ab_I x2, ab_I x1]) (as := [ab_I x1, ab_I x2, ab_I x3]) (b1 := (10, 0, 0)) 0 (Or.inl rfl) (by decide) ko_L_law qM_14_112 (by decide) rfl rfl rfl rfl rfl h (Nat.le_of_ble_eq_true rfl) kc_L_law dL_law_1583
theorem rL_law_1586 : ab_Run X 288 1586 (f, cl, sl) L (ab_I b :: ab_I a :: st) σ Q ↔ (a = b → ab_Run X 288 2374 (f, cl, sl) L st σ Q) ∧ (¬ (a = b) → ab_Run X 288 1589 (f, cl, sl) L st σ Q) := ab_r_icmp_eq rfl kc_L_law dL_law_1586
theorem rL_law_1589 : ab_Run X 288 1589 (f, cl, sl) L st σ Q ↔ ab_Run X 288 1590 (f, cl, sl) L (ab_I 0 :: st) σ Q := ab_r_iconst (by decide) kc_L_law dL_law_1589
theorem rL_law_1590 : ab_Run X 288 1590 (f, cl, sl) L [ab_I v] σ Q ↔ (v = 0 ∨ v = 1) ∧ Q (some (ab_I v)) σ := ab_r_ireturnZ rfl kc_L_law dL_law_1590
theorem rL_law_1591 : ab_Run X 288 1591 (f, cl, sl) [l0, ab_R z, l2, l3, l4, l5, l6] st σ Q ↔ z ≠ 0 ∧ ab_Run X 288 1592 (f, cl, sl) [l0, ab_R z, l2, l3, l4, l5, l6] (ab_R z :: st) σ Q := ab_r_aload_n rfl kc_L_law dL_law_1591
theorem rL_law_1592 : ab_Run X 288 1592 (f, cl, sl) [ab_R z, l1, l2, l3, l4, l5, l6] st σ Q ↔ z ≠ 0 ∧ ab_Run X 288 1593 (f, cl, sl) [ab_R z, l1, l2, l3, l4, l5, l6] (ab_R z :: st) σ Q := ab_r_aload_n rfl kc_L_law dL_law_1592
theorem rL_law_1593 : ab_Run X 288 1593 (f, cl, sl) [l0, l1, l2, l3, ab_I z, l5, l6] st σ Q ↔ ab_Run X 288 1595 (f, cl, sl) [l0, l1, l2, l3, ab_I z, l5, l6] (ab_I z :: st) σ Q := ab_r_iload rfl kc_L_law dL_law_1593
theorem rL_law_1595 : ab_Run X 288 1595 (f, cl, sl) L st σ Q ↔ ab_Run X 288 1596 (f, cl, sl) L (ab_I 1 :: st) σ Q := ab_r_iconst (by decide) kc_L_law dL_law_1595
theorem rL_law_1596 : ab_Run X 288 1596 (f, cl, sl) L (ab_I b :: ab_I a :: st) σ Q ↔ ab_Run X 288 1597 (f, cl, sl) L (ab_I (ab_w32 (a + b)) :: st) σ Q := ab_r_iadd kc_L_law dL_law_1596
theorem rL_law_1597 : ab_Run X 288 1597 (f, cl, sl) L (ab_I i :: ab_R a :: st) σ Q ↔ (a = -1 ∧ 0 ≤ i ∧ i < X.1) ∧ ab_Run X 288 1598 (f, cl, sl) L (ab_I (X.2 i) :: st) σ Q := ab_r_ialoadX rfl kc_L_law dL_law_1597
theorem rL_law_1598 (h : 13 + 1 ≤ f ∧ 0 ≤ cl ∧ 0 ≤ sl) : ab_Run X 288 1598 (f, cl, sl) L (ab_I x1 :: ab_R a :: st) σ Q ↔ ((ab_sh σ a).1 = 12 ∧ ab_cats st ≤ 8) ∧ ab_Do X 101 [ab_R a, ab_I x1] σ (fun r σ' => ab_Run X 288 1601 (f, cl, sl) L (ab_psh r st) σ' Q) := ab_r_callV (w := [ab_I x1]) (as := [ab_I x1]) (b1 := (13, 0, 0)) 0 (Or.inl rfl) (by decide) ko_L_law qM_14_113 (by decide) rfl rfl rfl rfl rfl h (Nat.le_of_ble_eq_true rfl) kc_L_law dL_law_1598
theorem rL_law_1601 : ab_Run X 288 1601 (f, cl, sl) [l0, l1, ab_R z, l3, l4, l5, l6] st σ Q ↔ z ≠ 0 ∧ ab_Run X 288 1602 (f, cl, sl) [l0, l1, ab_R z, l3, l4, l5, l6] (ab_R z :: st) σ Q := ab_r_aload_n rfl kc_L_law dL_law_1601
theorem rL_law_1602 : ab_Run X 288 1602 (f, cl, sl) [ab_R z, l1, l2, l3, l4, l5, l6] st σ Q ↔ z ≠ 0 ∧ ab_Run X 288 1603 (f, cl, sl) [ab_R z, l1, l2, l3, l4, l5, l6] (ab_R z :: st) σ Q := ab_r_aload_n rfl kc_L_law dL_law_1602
theorem rL_law_1603 : ab_Run X 288 1603 (f, cl, sl) [l0, l1, l2, l3, ab_I z, l5, l6] st σ Q ↔ ab_Run X 288 1605 (f, cl, sl) [l0, l1, l2, l3, ab_I z, l5, l6] (ab_I z :: st) σ Q := ab_r_iload rfl kc_L_law dL_law_1603
theorem rL_law_1605 : ab_Run X 288 1605 (f, cl, sl) L st σ Q ↔ ab_Run X 288 1606 (f, cl, sl) L (ab_I 1 :: st) σ Q := ab_r_iconst (by decide) kc_L_law dL_law_1605
theorem rL_law_1606 : ab_Run X 288 1606 (f, cl, sl) L (ab_I b :: ab_I a :: st) σ Q ↔ ab_Run X 288 1607 (f, cl, sl) L (ab_I (ab_w32 (a + b)) :: st) σ Q := ab_r_iadd kc_L_law dL_law_1606
theorem rL_law_1607 : ab_Run X 288 1607 (f, cl, sl) L (ab_I i :: ab_R a :: st) σ Q ↔ (a = -1 ∧ 0 ≤ i ∧ i < X.1) ∧ ab_Run X 288 1608 (f, cl, sl) L (ab_I (X.2 i) :: st) σ Q := ab_r_ialoadX rfl kc_L_law dL_law_1607
theorem rL_law_1608 (h : 3 + 1 ≤ f ∧ 0 ≤ cl ∧ 0 ≤ sl) : ab_Run X 288 1608 (f, cl, sl) L (ab_I x1 :: ab_R a :: st) σ Q ↔ ((ab_sh σ a).1 = 14 ∧ ab_cats st ≤ 8) ∧ ab_Do X 255 [ab_R a, ab_I x1] σ (fun r σ' => ab_Run X 288 1611 (f, cl, sl) L (ab_psh r st) σ' Q) := ab_r_callV (w := [ab_I x1]) (as := [ab_I x1]) (b1 := (3, 0, 0)) 0 (Or.inl rfl) (by decide) ko_L_law qM_14_116 (by decide) rfl rfl rfl rfl rfl h (Nat.le_of_ble_eq_true rfl) kc_L_law dL_law_1608
end
