/-! the law: its instructions, 5 -/
theorem dL_1420 : decode code 1420 = .ok (.iload_n 3, 1) := by decide +kernel
theorem dL_1421 : decode code 1421 = .ok (.iconst 1, 1) := by decide +kernel
theorem dL_1422 : decode code 1422 = .ok (.iadd, 1) := by decide +kernel
theorem dL_1423 : decode code 1423 = .ok (.iaload, 1) := by decide +kernel
theorem dL_1424 : decode code 1424 = .ok (.aload_n 0, 1) := by decide +kernel
theorem dL_1425 : decode code 1425 = .ok (.iload_n 3, 1) := by decide +kernel
theorem dL_1426 : decode code 1426 = .ok (.iconst 2, 1) := by decide +kernel
theorem dL_1427 : decode code 1427 = .ok (.iadd, 1) := by decide +kernel
theorem dL_1428 : decode code 1428 = .ok (.iaload, 1) := by decide +kernel
theorem dL_1429 : decode code 1429 = .ok (.aload_n 0, 1) := by decide +kernel
theorem dL_1430 : decode code 1430 = .ok (.iload_n 3, 1) := by decide +kernel
theorem dL_1431 : decode code 1431 = .ok (.iconst 3, 1) := by decide +kernel
theorem dL_1432 : decode code 1432 = .ok (.iadd, 1) := by decide +kernel
theorem dL_1433 : decode code 1433 = .ok (.iaload, 1) := by decide +kernel
theorem dL_1434 : decode code 1434 = .ok (.aload_n 0, 1) := by decide +kernel
theorem dL_1435 : decode code 1435 = .ok (.iload_n 3, 1) := by decide +kernel
theorem dL_1436 : decode code 1436 = .ok (.iconst 4, 1) := by decide +kernel
theorem dL_1437 : decode code 1437 = .ok (.iadd, 1) := by decide +kernel
theorem dL_1438 : decode code 1438 = .ok (.iaload, 1) := by decide +kernel
theorem dL_1439 : decode code 1439 = .ok (.aload_n 0, 1) := by decide +kernel
theorem dL_1440 : decode code 1440 = .ok (.iload_n 3, 1) := by decide +kernel
theorem dL_1441 : decode code 1441 = .ok (.iconst 5, 1) := by decide +kernel
theorem dL_1442 : decode code 1442 = .ok (.iadd, 1) := by decide +kernel
theorem dL_1443 : decode code 1443 = .ok (.iaload, 1) := by decide +kernel
theorem dL_1444 : decode code 1444 = .ok (.invokevirtual 165, 3) := by decide +kernel
theorem dL_1447 : decode code 1447 = .ok (.if_icmp .eq 159, 3) := by decide +kernel
theorem dL_1450 : decode code 1450 = .ok (.iconst 0, 1) := by decide +kernel
theorem dL_1451 : decode code 1451 = .ok (.ireturn, 1) := by decide +kernel
theorem dL_1452 : decode code 1452 = .ok (.aload_n 1, 1) := by decide +kernel
theorem dL_1453 : decode code 1453 = .ok (.aload_n 0, 1) := by decide +kernel
theorem dL_1454 : decode code 1454 = .ok (.iload_n 3, 1) := by decide +kernel
theorem dL_1455 : decode code 1455 = .ok (.iconst 1, 1) := by decide +kernel
theorem dL_1456 : decode code 1456 = .ok (.iadd, 1) := by decide +kernel
theorem dL_1457 : decode code 1457 = .ok (.iaload, 1) := by decide +kernel
theorem dL_1458 : decode code 1458 = .ok (.invokevirtual 166, 3) := by decide +kernel
theorem dL_1461 : decode code 1461 = .ok (.aload_n 2, 1) := by decide +kernel
theorem dL_1462 : decode code 1462 = .ok (.aload_n 0, 1) := by decide +kernel
theorem dL_1463 : decode code 1463 = .ok (.iload_n 3, 1) := by decide +kernel
theorem dL_1464 : decode code 1464 = .ok (.iconst 1, 1) := by decide +kernel
theorem dL_1465 : decode code 1465 = .ok (.iadd, 1) := by decide +kernel
theorem dL_1466 : decode code 1466 = .ok (.iaload, 1) := by decide +kernel
theorem dL_1467 : decode code 1467 = .ok (.invokevirtual 169, 3) := by decide +kernel
theorem dL_1470 : decode code 1470 = .ok (.if_icmp .eq 136, 3) := by decide +kernel
theorem dL_1473 : decode code 1473 = .ok (.iconst 0, 1) := by decide +kernel
theorem dL_1474 : decode code 1474 = .ok (.ireturn, 1) := by decide +kernel
theorem dL_1475 : decode code 1475 = .ok (.aload_n 1, 1) := by decide +kernel
theorem dL_1476 : decode code 1476 = .ok (.aload_n 0, 1) := by decide +kernel
theorem dL_1477 : decode code 1477 = .ok (.iload_n 3, 1) := by decide +kernel
theorem dL_1478 : decode code 1478 = .ok (.iconst 1, 1) := by decide +kernel
theorem dL_1479 : decode code 1479 = .ok (.iadd, 1) := by decide +kernel
theorem dL_1480 : decode code 1480 = .ok (.iaload, 1) := by decide +kernel
theorem dL_1481 : decode code 1481 = .ok (.invokevirtual 170, 3) := by decide +kernel
theorem dL_1484 : decode code 1484 = .ok (.aload_n 2, 1) := by decide +kernel
theorem dL_1485 : decode code 1485 = .ok (.aload_n 0, 1) := by decide +kernel
theorem dL_1486 : decode code 1486 = .ok (.iload_n 3, 1) := by decide +kernel
theorem dL_1487 : decode code 1487 = .ok (.iconst 1, 1) := by decide +kernel
theorem dL_1488 : decode code 1488 = .ok (.iadd, 1) := by decide +kernel
theorem dL_1489 : decode code 1489 = .ok (.iaload, 1) := by decide +kernel
theorem dL_1490 : decode code 1490 = .ok (.invokevirtual 173, 3) := by decide +kernel
theorem dL_1493 : decode code 1493 = .ok (.if_icmp .eq 113, 3) := by decide +kernel
theorem dL_1496 : decode code 1496 = .ok (.iconst 0, 1) := by decide +kernel
theorem dL_1497 : decode code 1497 = .ok (.ireturn, 1) := by decide +kernel
theorem dL_1498 : decode code 1498 = .ok (.aload_n 1, 1) := by decide +kernel
theorem dL_1499 : decode code 1499 = .ok (.invokevirtual 174, 3) := by decide +kernel
theorem dL_1502 : decode code 1502 = .ok (.aload_n 2, 1) := by decide +kernel
theorem dL_1503 : decode code 1503 = .ok (.invokevirtual 177, 3) := by decide +kernel
theorem dL_1506 : decode code 1506 = .ok (.if_icmp .eq 100, 3) := by decide +kernel
theorem dL_1509 : decode code 1509 = .ok (.iconst 0, 1) := by decide +kernel
theorem dL_1510 : decode code 1510 = .ok (.ireturn, 1) := by decide +kernel
theorem dL_1511 : decode code 1511 = .ok (.aload_n 1, 1) := by decide +kernel
theorem dL_1512 : decode code 1512 = .ok (.invokevirtual 178, 3) := by decide +kernel
theorem dL_1515 : decode code 1515 = .ok (.aload_n 2, 1) := by decide +kernel
theorem dL_1516 : decode code 1516 = .ok (.invokevirtual 181, 3) := by decide +kernel
theorem dL_1519 : decode code 1519 = .ok (.if_icmp .eq 87, 3) := by decide +kernel
theorem dL_1522 : decode code 1522 = .ok (.iconst 0, 1) := by decide +kernel
theorem dL_1523 : decode code 1523 = .ok (.ireturn, 1) := by decide +kernel
theorem dL_1524 : decode code 1524 = .ok (.aload_n 1, 1) := by decide +kernel
theorem dL_1525 : decode code 1525 = .ok (.aload_n 0, 1) := by decide +kernel
theorem dL_1526 : decode code 1526 = .ok (.iload_n 3, 1) := by decide +kernel
theorem dL_1527 : decode code 1527 = .ok (.iconst 1, 1) := by decide +kernel
theorem dL_1528 : decode code 1528 = .ok (.iadd, 1) := by decide +kernel
theorem dL_1529 : decode code 1529 = .ok (.iaload, 1) := by decide +kernel
theorem dL_1530 : decode code 1530 = .ok (.invokevirtual 182, 3) := by decide +kernel
theorem dL_1533 : decode code 1533 = .ok (.aload_n 2, 1) := by decide +kernel
theorem dL_1534 : decode code 1534 = .ok (.aload_n 0, 1) := by decide +kernel
theorem dL_1535 : decode code 1535 = .ok (.iload_n 3, 1) := by decide +kernel
theorem dL_1536 : decode code 1536 = .ok (.iconst 1, 1) := by decide +kernel
theorem dL_1537 : decode code 1537 = .ok (.iadd, 1) := by decide +kernel
theorem dL_1538 : decode code 1538 = .ok (.iaload, 1) := by decide +kernel
theorem dL_1539 : decode code 1539 = .ok (.invokevirtual 185, 3) := by decide +kernel
theorem dL_1542 : decode code 1542 = .ok (.if_icmp .eq 64, 3) := by decide +kernel
theorem dL_1545 : decode code 1545 = .ok (.iconst 0, 1) := by decide +kernel
theorem dL_1546 : decode code 1546 = .ok (.ireturn, 1) := by decide +kernel
theorem dL_1547 : decode code 1547 = .ok (.aload_n 1, 1) := by decide +kernel
theorem dL_1548 : decode code 1548 = .ok (.invokevirtual 186, 3) := by decide +kernel
theorem dL_1551 : decode code 1551 = .ok (.aload_n 2, 1) := by decide +kernel
theorem dL_1552 : decode code 1552 = .ok (.invokevirtual 189, 3) := by decide +kernel
theorem dL_1555 : decode code 1555 = .ok (.if_icmp .eq 51, 3) := by decide +kernel
theorem dL_1558 : decode code 1558 = .ok (.iconst 0, 1) := by decide +kernel
theorem dL_1559 : decode code 1559 = .ok (.ireturn, 1) := by decide +kernel
theorem dL_1560 : decode code 1560 = .ok (.aload_n 1, 1) := by decide +kernel
theorem dL_1561 : decode code 1561 = .ok (.aload_n 0, 1) := by decide +kernel
theorem dL_1562 : decode code 1562 = .ok (.iload_n 3, 1) := by decide +kernel
theorem dL_1563 : decode code 1563 = .ok (.iconst 1, 1) := by decide +kernel
theorem dL_1564 : decode code 1564 = .ok (.iadd, 1) := by decide +kernel
theorem dL_1565 : decode code 1565 = .ok (.iaload, 1) := by decide +kernel
theorem dL_1566 : decode code 1566 = .ok (.invokevirtual 190, 3) := by decide +kernel
theorem dL_1569 : decode code 1569 = .ok (.aload_n 2, 1) := by decide +kernel
theorem dL_1570 : decode code 1570 = .ok (.aload_n 0, 1) := by decide +kernel
theorem dL_1571 : decode code 1571 = .ok (.iload_n 3, 1) := by decide +kernel
theorem dL_1572 : decode code 1572 = .ok (.iconst 1, 1) := by decide +kernel
theorem dL_1573 : decode code 1573 = .ok (.iadd, 1) := by decide +kernel
theorem dL_1574 : decode code 1574 = .ok (.iaload, 1) := by decide +kernel
theorem dL_1575 : decode code 1575 = .ok (.invokevirtual 193, 3) := by decide +kernel
theorem dL_1578 : decode code 1578 = .ok (.if_icmp .eq 28, 3) := by decide +kernel
theorem dL_1581 : decode code 1581 = .ok (.iconst 0, 1) := by decide +kernel
theorem dL_1582 : decode code 1582 = .ok (.ireturn, 1) := by decide +kernel
theorem dL_1583 : decode code 1583 = .ok (.aload_n 1, 1) := by decide +kernel
theorem dL_1584 : decode code 1584 = .ok (.aload_n 0, 1) := by decide +kernel
theorem dL_1585 : decode code 1585 = .ok (.iload_n 3, 1) := by decide +kernel
theorem dL_1586 : decode code 1586 = .ok (.iconst 1, 1) := by decide +kernel
theorem dL_1587 : decode code 1587 = .ok (.iadd, 1) := by decide +kernel
theorem dL_1588 : decode code 1588 = .ok (.iaload, 1) := by decide +kernel
theorem dL_1589 : decode code 1589 = .ok (.invokevirtual 194, 3) := by decide +kernel
theorem dL_1592 : decode code 1592 = .ok (.aload_n 2, 1) := by decide +kernel
theorem dL_1593 : decode code 1593 = .ok (.aload_n 0, 1) := by decide +kernel
theorem dL_1594 : decode code 1594 = .ok (.iload_n 3, 1) := by decide +kernel
theorem dL_1595 : decode code 1595 = .ok (.iconst 1, 1) := by decide +kernel
theorem dL_1596 : decode code 1596 = .ok (.iadd, 1) := by decide +kernel
theorem dL_1597 : decode code 1597 = .ok (.iaload, 1) := by decide +kernel
theorem dL_1598 : decode code 1598 = .ok (.invokevirtual 197, 3) := by decide +kernel
theorem dL_1601 : decode code 1601 = .ok (.if_icmp .eq 5, 3) := by decide +kernel
theorem dL_1604 : decode code 1604 = .ok (.iconst 0, 1) := by decide +kernel
theorem dL_1605 : decode code 1605 = .ok (.ireturn, 1) := by decide +kernel
theorem dL_1606 : decode code 1606 = .ok (.iinc 3 6, 3) := by decide +kernel
theorem dL_1609 : decode code 1609 = .ok (.goto (-1591), 3) := by decide +kernel
theorem dL_1612 : decode code 1612 = .ok (.iconst 1, 1) := by decide +kernel
theorem dL_1613 : decode code 1613 = .ok (.ireturn, 1) := by decide +kernel
