theorem d_L_law_1390 : decode code 1390 = .ok (.aload_n 0, 1) := by decide +kernel
theorem d_L_law_1391 : decode code 1391 = .ok (.iload_n 3, 1) := by decide +kernel
theorem d_L_law_1392 : decode code 1392 = .ok (.iconst 3, 1) := by decide +kernel
theorem d_L_law_1393 : decode code 1393 = .ok (.iadd, 1) := by decide +kernel
theorem d_L_law_1394 : decode code 1394 = .ok (.iaload, 1) := by decide +kernel
theorem d_L_law_1395 : decode code 1395 = .ok (.aload_n 0, 1) := by decide +kernel
theorem d_L_law_1396 : decode code 1396 = .ok (.iload_n 3, 1) := by decide +kernel
theorem d_L_law_1397 : decode code 1397 = .ok (.iconst 4, 1) := by decide +kernel
theorem d_L_law_1398 : decode code 1398 = .ok (.iadd, 1) := by decide +kernel
theorem d_L_law_1399 : decode code 1399 = .ok (.iaload, 1) := by decide +kernel
theorem d_L_law_1400 : decode code 1400 = .ok (.aload_n 0, 1) := by decide +kernel
theorem d_L_law_1401 : decode code 1401 = .ok (.iload_n 3, 1) := by decide +kernel
theorem d_L_law_1402 : decode code 1402 = .ok (.iconst 5, 1) := by decide +kernel
theorem d_L_law_1403 : decode code 1403 = .ok (.iadd, 1) := by decide +kernel
theorem d_L_law_1404 : decode code 1404 = .ok (.iaload, 1) := by decide +kernel
theorem d_L_law_1405 : decode code 1405 = .ok (.invokevirtual 161, 3) := by decide +kernel
theorem d_L_law_1408 : decode code 1408 = .ok (.aload_n 2, 1) := by decide +kernel
theorem d_L_law_1409 : decode code 1409 = .ok (.aload_n 0, 1) := by decide +kernel
theorem d_L_law_1410 : decode code 1410 = .ok (.iload_n 3, 1) := by decide +kernel
theorem d_L_law_1411 : decode code 1411 = .ok (.iconst 1, 1) := by decide +kernel
theorem d_L_law_1412 : decode code 1412 = .ok (.iadd, 1) := by decide +kernel
theorem d_L_law_1413 : decode code 1413 = .ok (.iaload, 1) := by decide +kernel
theorem d_L_law_1414 : decode code 1414 = .ok (.aload_n 0, 1) := by decide +kernel
theorem d_L_law_1415 : decode code 1415 = .ok (.iload_n 3, 1) := by decide +kernel
theorem d_L_law_1416 : decode code 1416 = .ok (.iconst 2, 1) := by decide +kernel
theorem d_L_law_1417 : decode code 1417 = .ok (.iadd, 1) := by decide +kernel
theorem d_L_law_1418 : decode code 1418 = .ok (.iaload, 1) := by decide +kernel
theorem d_L_law_1419 : decode code 1419 = .ok (.aload_n 0, 1) := by decide +kernel
theorem d_L_law_1420 : decode code 1420 = .ok (.iload_n 3, 1) := by decide +kernel
theorem d_L_law_1421 : decode code 1421 = .ok (.iconst 3, 1) := by decide +kernel
theorem d_L_law_1422 : decode code 1422 = .ok (.iadd, 1) := by decide +kernel
theorem d_L_law_1423 : decode code 1423 = .ok (.iaload, 1) := by decide +kernel
theorem d_L_law_1424 : decode code 1424 = .ok (.aload_n 0, 1) := by decide +kernel
theorem d_L_law_1425 : decode code 1425 = .ok (.iload_n 3, 1) := by decide +kernel
theorem d_L_law_1426 : decode code 1426 = .ok (.iconst 4, 1) := by decide +kernel
theorem d_L_law_1427 : decode code 1427 = .ok (.iadd, 1) := by decide +kernel
theorem d_L_law_1428 : decode code 1428 = .ok (.iaload, 1) := by decide +kernel
theorem d_L_law_1429 : decode code 1429 = .ok (.aload_n 0, 1) := by decide +kernel
theorem d_L_law_1430 : decode code 1430 = .ok (.iload_n 3, 1) := by decide +kernel
theorem d_L_law_1431 : decode code 1431 = .ok (.iconst 5, 1) := by decide +kernel
theorem d_L_law_1432 : decode code 1432 = .ok (.iadd, 1) := by decide +kernel
theorem d_L_law_1433 : decode code 1433 = .ok (.iaload, 1) := by decide +kernel
theorem d_L_law_1434 : decode code 1434 = .ok (.invokevirtual 165, 3) := by decide +kernel
theorem d_L_law_1437 : decode code 1437 = .ok (.if_icmp .eq 91, 3) := by decide +kernel
theorem d_L_law_1440 : decode code 1440 = .ok (.iconst 0, 1) := by decide +kernel
theorem d_L_law_1441 : decode code 1441 = .ok (.ireturn, 1) := by decide +kernel
theorem d_L_law_1442 : decode code 1442 = .ok (.aload_n 1, 1) := by decide +kernel
theorem d_L_law_1443 : decode code 1443 = .ok (.aload_n 0, 1) := by decide +kernel
theorem d_L_law_1444 : decode code 1444 = .ok (.iload_n 3, 1) := by decide +kernel
theorem d_L_law_1445 : decode code 1445 = .ok (.iconst 1, 1) := by decide +kernel
theorem d_L_law_1446 : decode code 1446 = .ok (.iadd, 1) := by decide +kernel
theorem d_L_law_1447 : decode code 1447 = .ok (.iaload, 1) := by decide +kernel
theorem d_L_law_1448 : decode code 1448 = .ok (.aload_n 0, 1) := by decide +kernel
theorem d_L_law_1449 : decode code 1449 = .ok (.iload_n 3, 1) := by decide +kernel
theorem d_L_law_1450 : decode code 1450 = .ok (.iconst 2, 1) := by decide +kernel
theorem d_L_law_1451 : decode code 1451 = .ok (.iadd, 1) := by decide +kernel
theorem d_L_law_1452 : decode code 1452 = .ok (.iaload, 1) := by decide +kernel
theorem d_L_law_1453 : decode code 1453 = .ok (.aload_n 0, 1) := by decide +kernel
theorem d_L_law_1454 : decode code 1454 = .ok (.iload_n 3, 1) := by decide +kernel
theorem d_L_law_1455 : decode code 1455 = .ok (.iconst 3, 1) := by decide +kernel
theorem d_L_law_1456 : decode code 1456 = .ok (.iadd, 1) := by decide +kernel
theorem d_L_law_1457 : decode code 1457 = .ok (.iaload, 1) := by decide +kernel
theorem d_L_law_1458 : decode code 1458 = .ok (.aload_n 0, 1) := by decide +kernel
theorem d_L_law_1459 : decode code 1459 = .ok (.iload_n 3, 1) := by decide +kernel
theorem d_L_law_1460 : decode code 1460 = .ok (.iconst 4, 1) := by decide +kernel
theorem d_L_law_1461 : decode code 1461 = .ok (.iadd, 1) := by decide +kernel
theorem d_L_law_1462 : decode code 1462 = .ok (.iaload, 1) := by decide +kernel
theorem d_L_law_1463 : decode code 1463 = .ok (.invokevirtual 166, 3) := by decide +kernel
theorem d_L_law_1466 : decode code 1466 = .ok (.aload_n 2, 1) := by decide +kernel
theorem d_L_law_1467 : decode code 1467 = .ok (.aload_n 0, 1) := by decide +kernel
theorem d_L_law_1468 : decode code 1468 = .ok (.iload_n 3, 1) := by decide +kernel
theorem d_L_law_1469 : decode code 1469 = .ok (.iconst 1, 1) := by decide +kernel
theorem d_L_law_1470 : decode code 1470 = .ok (.iadd, 1) := by decide +kernel
theorem d_L_law_1471 : decode code 1471 = .ok (.iaload, 1) := by decide +kernel
theorem d_L_law_1472 : decode code 1472 = .ok (.aload_n 0, 1) := by decide +kernel
theorem d_L_law_1473 : decode code 1473 = .ok (.iload_n 3, 1) := by decide +kernel
theorem d_L_law_1474 : decode code 1474 = .ok (.iconst 2, 1) := by decide +kernel
theorem d_L_law_1475 : decode code 1475 = .ok (.iadd, 1) := by decide +kernel
theorem d_L_law_1476 : decode code 1476 = .ok (.iaload, 1) := by decide +kernel
theorem d_L_law_1477 : decode code 1477 = .ok (.aload_n 0, 1) := by decide +kernel
theorem d_L_law_1478 : decode code 1478 = .ok (.iload_n 3, 1) := by decide +kernel
theorem d_L_law_1479 : decode code 1479 = .ok (.iconst 3, 1) := by decide +kernel
theorem d_L_law_1480 : decode code 1480 = .ok (.iadd, 1) := by decide +kernel
theorem d_L_law_1481 : decode code 1481 = .ok (.iaload, 1) := by decide +kernel
theorem d_L_law_1482 : decode code 1482 = .ok (.aload_n 0, 1) := by decide +kernel
theorem d_L_law_1483 : decode code 1483 = .ok (.iload_n 3, 1) := by decide +kernel
theorem d_L_law_1484 : decode code 1484 = .ok (.iconst 4, 1) := by decide +kernel
theorem d_L_law_1485 : decode code 1485 = .ok (.iadd, 1) := by decide +kernel
theorem d_L_law_1486 : decode code 1486 = .ok (.iaload, 1) := by decide +kernel
theorem d_L_law_1487 : decode code 1487 = .ok (.invokevirtual 169, 3) := by decide +kernel
theorem d_L_law_1490 : decode code 1490 = .ok (.if_icmp .eq 38, 3) := by decide +kernel
theorem d_L_law_1493 : decode code 1493 = .ok (.iconst 0, 1) := by decide +kernel
theorem d_L_law_1494 : decode code 1494 = .ok (.ireturn, 1) := by decide +kernel
theorem d_L_law_1495 : decode code 1495 = .ok (.aload_n 1, 1) := by decide +kernel
theorem d_L_law_1496 : decode code 1496 = .ok (.aload_n 0, 1) := by decide +kernel
theorem d_L_law_1497 : decode code 1497 = .ok (.iload_n 3, 1) := by decide +kernel
theorem d_L_law_1498 : decode code 1498 = .ok (.iconst 1, 1) := by decide +kernel
theorem d_L_law_1499 : decode code 1499 = .ok (.iadd, 1) := by decide +kernel
theorem d_L_law_1500 : decode code 1500 = .ok (.iaload, 1) := by decide +kernel
theorem d_L_law_1501 : decode code 1501 = .ok (.aload_n 0, 1) := by decide +kernel
theorem d_L_law_1502 : decode code 1502 = .ok (.iload_n 3, 1) := by decide +kernel
theorem d_L_law_1503 : decode code 1503 = .ok (.iconst 2, 1) := by decide +kernel
theorem d_L_law_1504 : decode code 1504 = .ok (.iadd, 1) := by decide +kernel
theorem d_L_law_1505 : decode code 1505 = .ok (.iaload, 1) := by decide +kernel
theorem d_L_law_1506 : decode code 1506 = .ok (.invokevirtual 170, 3) := by decide +kernel
theorem d_L_law_1509 : decode code 1509 = .ok (.aload_n 2, 1) := by decide +kernel
theorem d_L_law_1510 : decode code 1510 = .ok (.aload_n 0, 1) := by decide +kernel
theorem d_L_law_1511 : decode code 1511 = .ok (.iload_n 3, 1) := by decide +kernel
theorem d_L_law_1512 : decode code 1512 = .ok (.iconst 1, 1) := by decide +kernel
theorem d_L_law_1513 : decode code 1513 = .ok (.iadd, 1) := by decide +kernel
theorem d_L_law_1514 : decode code 1514 = .ok (.iaload, 1) := by decide +kernel
theorem d_L_law_1515 : decode code 1515 = .ok (.aload_n 0, 1) := by decide +kernel
theorem d_L_law_1516 : decode code 1516 = .ok (.iload_n 3, 1) := by decide +kernel
theorem d_L_law_1517 : decode code 1517 = .ok (.iconst 2, 1) := by decide +kernel
theorem d_L_law_1518 : decode code 1518 = .ok (.iadd, 1) := by decide +kernel
theorem d_L_law_1519 : decode code 1519 = .ok (.iaload, 1) := by decide +kernel
theorem d_L_law_1520 : decode code 1520 = .ok (.invokevirtual 173, 3) := by decide +kernel
theorem d_L_law_1523 : decode code 1523 = .ok (.if_icmp .eq 5, 3) := by decide +kernel
theorem d_L_law_1526 : decode code 1526 = .ok (.iconst 0, 1) := by decide +kernel
theorem d_L_law_1527 : decode code 1527 = .ok (.ireturn, 1) := by decide +kernel
theorem d_L_law_1528 : decode code 1528 = .ok (.iinc 3 7, 3) := by decide +kernel
theorem d_L_law_1531 : decode code 1531 = .ok (.goto (-1513), 3) := by decide +kernel
theorem d_L_law_1534 : decode code 1534 = .ok (.iconst 1, 1) := by decide +kernel
theorem d_L_law_1535 : decode code 1535 = .ok (.ireturn, 1) := by decide +kernel
