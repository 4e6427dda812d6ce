theorem dL_1368 : decode code 1368 = .ok (.aload_n 0, 1) := by decide +kernel
theorem dL_1369 : decode code 1369 = .ok (.iload_n 3, 1) := by decide +kernel
theorem dL_1370 : decode code 1370 = .ok (.iconst 2, 1) := by decide +kernel
theorem dL_1371 : decode code 1371 = .ok (.iadd, 1) := by decide +kernel
theorem dL_1372 : decode code 1372 = .ok (.iaload, 1) := by decide +kernel
theorem dL_1373 : decode code 1373 = .ok (.invokevirtual 186, 3) := by decide +kernel
theorem dL_1376 : decode code 1376 = .ok (.pop, 1) := by decide +kernel
theorem dL_1377 : decode code 1377 = .ok (.aload_n 2, 1) := by decide +kernel
theorem dL_1378 : decode code 1378 = .ok (.aload_n 0, 1) := by decide +kernel
theorem dL_1379 : decode code 1379 = .ok (.iload_n 3, 1) := by decide +kernel
theorem dL_1380 : decode code 1380 = .ok (.iconst 1, 1) := by decide +kernel
theorem dL_1381 : decode code 1381 = .ok (.iadd, 1) := by decide +kernel
theorem dL_1382 : decode code 1382 = .ok (.iaload, 1) := by decide +kernel
theorem dL_1383 : decode code 1383 = .ok (.aload_n 0, 1) := by decide +kernel
theorem dL_1384 : decode code 1384 = .ok (.iload_n 3, 1) := by decide +kernel
theorem dL_1385 : decode code 1385 = .ok (.iconst 2, 1) := by decide +kernel
theorem dL_1386 : decode code 1386 = .ok (.iadd, 1) := by decide +kernel
theorem dL_1387 : decode code 1387 = .ok (.iaload, 1) := by decide +kernel
theorem dL_1388 : decode code 1388 = .ok (.invokevirtual 189, 3) := by decide +kernel
theorem dL_1391 : decode code 1391 = .ok (.pop, 1) := by decide +kernel
theorem dL_1392 : decode code 1392 = .ok (.goto 960, 3) := by decide +kernel
theorem dL_1395 : decode code 1395 = .ok (.aload_n 1, 1) := by decide +kernel
theorem dL_1396 : decode code 1396 = .ok (.aload_n 0, 1) := by decide +kernel
theorem dL_1397 : decode code 1397 = .ok (.iload_n 3, 1) := by decide +kernel
theorem dL_1398 : decode code 1398 = .ok (.iconst 1, 1) := by decide +kernel
theorem dL_1399 : decode code 1399 = .ok (.iadd, 1) := by decide +kernel
theorem dL_1400 : decode code 1400 = .ok (.iaload, 1) := by decide +kernel
theorem dL_1401 : decode code 1401 = .ok (.aload_n 0, 1) := by decide +kernel
theorem dL_1402 : decode code 1402 = .ok (.iload_n 3, 1) := by decide +kernel
theorem dL_1403 : decode code 1403 = .ok (.iconst 2, 1) := by decide +kernel
theorem dL_1404 : decode code 1404 = .ok (.iadd, 1) := by decide +kernel
theorem dL_1405 : decode code 1405 = .ok (.iaload, 1) := by decide +kernel
theorem dL_1406 : decode code 1406 = .ok (.invokevirtual 190, 3) := by decide +kernel
theorem dL_1409 : decode code 1409 = .ok (.pop, 1) := by decide +kernel
theorem dL_1410 : decode code 1410 = .ok (.aload_n 2, 1) := by decide +kernel
theorem dL_1411 : decode code 1411 = .ok (.aload_n 0, 1) := by decide +kernel
theorem dL_1412 : decode code 1412 = .ok (.iload_n 3, 1) := by decide +kernel
theorem dL_1413 : decode code 1413 = .ok (.iconst 1, 1) := by decide +kernel
theorem dL_1414 : decode code 1414 = .ok (.iadd, 1) := by decide +kernel
theorem dL_1415 : decode code 1415 = .ok (.iaload, 1) := by decide +kernel
theorem dL_1416 : decode code 1416 = .ok (.aload_n 0, 1) := by decide +kernel
theorem dL_1417 : decode code 1417 = .ok (.iload_n 3, 1) := by decide +kernel
theorem dL_1418 : decode code 1418 = .ok (.iconst 2, 1) := by decide +kernel
theorem dL_1419 : decode code 1419 = .ok (.iadd, 1) := by decide +kernel
theorem dL_1420 : decode code 1420 = .ok (.iaload, 1) := by decide +kernel
theorem dL_1421 : decode code 1421 = .ok (.invokevirtual 193, 3) := by decide +kernel
theorem dL_1424 : decode code 1424 = .ok (.pop, 1) := by decide +kernel
theorem dL_1425 : decode code 1425 = .ok (.goto 927, 3) := by decide +kernel
theorem dL_1428 : decode code 1428 = .ok (.aload_n 1, 1) := by decide +kernel
theorem dL_1429 : decode code 1429 = .ok (.aload_n 0, 1) := by decide +kernel
theorem dL_1430 : decode code 1430 = .ok (.iload_n 3, 1) := by decide +kernel
theorem dL_1431 : decode code 1431 = .ok (.iconst 1, 1) := by decide +kernel
theorem dL_1432 : decode code 1432 = .ok (.iadd, 1) := by decide +kernel
theorem dL_1433 : decode code 1433 = .ok (.iaload, 1) := by decide +kernel
theorem dL_1434 : decode code 1434 = .ok (.aload_n 0, 1) := by decide +kernel
theorem dL_1435 : decode code 1435 = .ok (.iload_n 3, 1) := by decide +kernel
theorem dL_1436 : decode code 1436 = .ok (.iconst 2, 1) := by decide +kernel
theorem dL_1437 : decode code 1437 = .ok (.iadd, 1) := by decide +kernel
theorem dL_1438 : decode code 1438 = .ok (.iaload, 1) := by decide +kernel
theorem dL_1439 : decode code 1439 = .ok (.invokevirtual 194, 3) := by decide +kernel
theorem dL_1442 : decode code 1442 = .ok (.pop, 1) := by decide +kernel
theorem dL_1443 : decode code 1443 = .ok (.aload_n 2, 1) := by decide +kernel
theorem dL_1444 : decode code 1444 = .ok (.aload_n 0, 1) := by decide +kernel
theorem dL_1445 : decode code 1445 = .ok (.iload_n 3, 1) := by decide +kernel
theorem dL_1446 : decode code 1446 = .ok (.iconst 1, 1) := by decide +kernel
theorem dL_1447 : decode code 1447 = .ok (.iadd, 1) := by decide +kernel
theorem dL_1448 : decode code 1448 = .ok (.iaload, 1) := by decide +kernel
theorem dL_1449 : decode code 1449 = .ok (.aload_n 0, 1) := by decide +kernel
theorem dL_1450 : decode code 1450 = .ok (.iload_n 3, 1) := by decide +kernel
theorem dL_1451 : decode code 1451 = .ok (.iconst 2, 1) := by decide +kernel
theorem dL_1452 : decode code 1452 = .ok (.iadd, 1) := by decide +kernel
theorem dL_1453 : decode code 1453 = .ok (.iaload, 1) := by decide +kernel
theorem dL_1454 : decode code 1454 = .ok (.invokevirtual 197, 3) := by decide +kernel
theorem dL_1457 : decode code 1457 = .ok (.pop, 1) := by decide +kernel
theorem dL_1458 : decode code 1458 = .ok (.goto 894, 3) := by decide +kernel
theorem dL_1461 : decode code 1461 = .ok (.aload_n 1, 1) := by decide +kernel
theorem dL_1462 : decode code 1462 = .ok (.aload_n 0, 1) := by decide +kernel
theorem dL_1463 : decode code 1463 = .ok (.iload_n 3, 1) := by decide +kernel
theorem dL_1464 : decode code 1464 = .ok (.iconst 1, 1) := by decide +kernel
theorem dL_1465 : decode code 1465 = .ok (.iadd, 1) := by decide +kernel
theorem dL_1466 : decode code 1466 = .ok (.iaload, 1) := by decide +kernel
theorem dL_1467 : decode code 1467 = .ok (.aload_n 0, 1) := by decide +kernel
theorem dL_1468 : decode code 1468 = .ok (.iload_n 3, 1) := by decide +kernel
theorem dL_1469 : decode code 1469 = .ok (.iconst 2, 1) := by decide +kernel
theorem dL_1470 : decode code 1470 = .ok (.iadd, 1) := by decide +kernel
theorem dL_1471 : decode code 1471 = .ok (.iaload, 1) := by decide +kernel
theorem dL_1472 : decode code 1472 = .ok (.invokevirtual 198, 3) := by decide +kernel
theorem dL_1475 : decode code 1475 = .ok (.pop, 1) := by decide +kernel
theorem dL_1476 : decode code 1476 = .ok (.aload_n 2, 1) := by decide +kernel
theorem dL_1477 : decode code 1477 = .ok (.aload_n 0, 1) := by decide +kernel
theorem dL_1478 : decode code 1478 = .ok (.iload_n 3, 1) := by decide +kernel
theorem dL_1479 : decode code 1479 = .ok (.iconst 1, 1) := by decide +kernel
theorem dL_1480 : decode code 1480 = .ok (.iadd, 1) := by decide +kernel
theorem dL_1481 : decode code 1481 = .ok (.iaload, 1) := by decide +kernel
theorem dL_1482 : decode code 1482 = .ok (.aload_n 0, 1) := by decide +kernel
theorem dL_1483 : decode code 1483 = .ok (.iload_n 3, 1) := by decide +kernel
theorem dL_1484 : decode code 1484 = .ok (.iconst 2, 1) := by decide +kernel
theorem dL_1485 : decode code 1485 = .ok (.iadd, 1) := by decide +kernel
theorem dL_1486 : decode code 1486 = .ok (.iaload, 1) := by decide +kernel
theorem dL_1487 : decode code 1487 = .ok (.invokevirtual 201, 3) := by decide +kernel
theorem dL_1490 : decode code 1490 = .ok (.pop, 1) := by decide +kernel
theorem dL_1491 : decode code 1491 = .ok (.goto 861, 3) := by decide +kernel
theorem dL_1494 : decode code 1494 = .ok (.aload_n 1, 1) := by decide +kernel
theorem dL_1495 : decode code 1495 = .ok (.aload_n 0, 1) := by decide +kernel
theorem dL_1496 : decode code 1496 = .ok (.iload_n 3, 1) := by decide +kernel
theorem dL_1497 : decode code 1497 = .ok (.iconst 1, 1) := by decide +kernel
theorem dL_1498 : decode code 1498 = .ok (.iadd, 1) := by decide +kernel
theorem dL_1499 : decode code 1499 = .ok (.iaload, 1) := by decide +kernel
theorem dL_1500 : decode code 1500 = .ok (.aload_n 0, 1) := by decide +kernel
theorem dL_1501 : decode code 1501 = .ok (.iload_n 3, 1) := by decide +kernel
theorem dL_1502 : decode code 1502 = .ok (.iconst 2, 1) := by decide +kernel
theorem dL_1503 : decode code 1503 = .ok (.iadd, 1) := by decide +kernel
theorem dL_1504 : decode code 1504 = .ok (.iaload, 1) := by decide +kernel
theorem dL_1505 : decode code 1505 = .ok (.invokevirtual 202, 3) := by decide +kernel
theorem dL_1508 : decode code 1508 = .ok (.pop, 1) := by decide +kernel
theorem dL_1509 : decode code 1509 = .ok (.aload_n 2, 1) := by decide +kernel
theorem dL_1510 : decode code 1510 = .ok (.aload_n 0, 1) := by decide +kernel
theorem dL_1511 : decode code 1511 = .ok (.iload_n 3, 1) := by decide +kernel
theorem dL_1512 : decode code 1512 = .ok (.iconst 1, 1) := by decide +kernel
theorem dL_1513 : decode code 1513 = .ok (.iadd, 1) := by decide +kernel
theorem dL_1514 : decode code 1514 = .ok (.iaload, 1) := by decide +kernel
theorem dL_1515 : decode code 1515 = .ok (.aload_n 0, 1) := by decide +kernel
theorem dL_1516 : decode code 1516 = .ok (.iload_n 3, 1) := by decide +kernel
theorem dL_1517 : decode code 1517 = .ok (.iconst 2, 1) := by decide +kernel
theorem dL_1518 : decode code 1518 = .ok (.iadd, 1) := by decide +kernel
theorem dL_1519 : decode code 1519 = .ok (.iaload, 1) := by decide +kernel
theorem dL_1520 : decode code 1520 = .ok (.invokevirtual 205, 3) := by decide +kernel
theorem dL_1523 : decode code 1523 = .ok (.pop, 1) := by decide +kernel
theorem dL_1524 : decode code 1524 = .ok (.goto 828, 3) := by decide +kernel
theorem dL_1527 : decode code 1527 = .ok (.aload_n 1, 1) := by decide +kernel
theorem dL_1528 : decode code 1528 = .ok (.aload_n 0, 1) := by decide +kernel
theorem dL_1529 : decode code 1529 = .ok (.iload_n 3, 1) := by decide +kernel
theorem dL_1530 : decode code 1530 = .ok (.iconst 1, 1) := by decide +kernel
theorem dL_1531 : decode code 1531 = .ok (.iadd, 1) := by decide +kernel
theorem dL_1532 : decode code 1532 = .ok (.iaload, 1) := by decide +kernel
theorem dL_1533 : decode code 1533 = .ok (.invokevirtual 206, 3) := by decide +kernel
theorem dL_1536 : decode code 1536 = .ok (.pop, 1) := by decide +kernel
theorem dL_1537 : decode code 1537 = .ok (.aload_n 2, 1) := by decide +kernel
theorem dL_1538 : decode code 1538 = .ok (.aload_n 0, 1) := by decide +kernel
theorem dL_1539 : decode code 1539 = .ok (.iload_n 3, 1) := by decide +kernel
theorem dL_1540 : decode code 1540 = .ok (.iconst 1, 1) := by decide +kernel
theorem dL_1541 : decode code 1541 = .ok (.iadd, 1) := by decide +kernel
theorem dL_1542 : decode code 1542 = .ok (.iaload, 1) := by decide +kernel
theorem dL_1543 : decode code 1543 = .ok (.invokevirtual 209, 3) := by decide +kernel
theorem dL_1546 : decode code 1546 = .ok (.pop, 1) := by decide +kernel
theorem dL_1547 : decode code 1547 = .ok (.goto 805, 3) := by decide +kernel
theorem dL_1550 : decode code 1550 = .ok (.aload_n 1, 1) := by decide +kernel
theorem dL_1551 : decode code 1551 = .ok (.aload_n 0, 1) := by decide +kernel
theorem dL_1552 : decode code 1552 = .ok (.iload_n 3, 1) := by decide +kernel
theorem dL_1553 : decode code 1553 = .ok (.iconst 1, 1) := by decide +kernel
theorem dL_1554 : decode code 1554 = .ok (.iadd, 1) := by decide +kernel
theorem dL_1555 : decode code 1555 = .ok (.iaload, 1) := by decide +kernel
theorem dL_1556 : decode code 1556 = .ok (.invokevirtual 210, 3) := by decide +kernel
theorem dL_1559 : decode code 1559 = .ok (.pop, 1) := by decide +kernel
theorem dL_1560 : decode code 1560 = .ok (.aload_n 2, 1) := by decide +kernel
theorem dL_1561 : decode code 1561 = .ok (.aload_n 0, 1) := by decide +kernel
theorem dL_1562 : decode code 1562 = .ok (.iload_n 3, 1) := by decide +kernel
theorem dL_1563 : decode code 1563 = .ok (.iconst 1, 1) := by decide +kernel
theorem dL_1564 : decode code 1564 = .ok (.iadd, 1) := by decide +kernel
theorem dL_1565 : decode code 1565 = .ok (.iaload, 1) := by decide +kernel
theorem dL_1566 : decode code 1566 = .ok (.invokevirtual 213, 3) := by decide +kernel
theorem dL_1569 : decode code 1569 = .ok (.pop, 1) := by decide +kernel
theorem dL_1570 : decode code 1570 = .ok (.goto 782, 3) := by decide +kernel
theorem dL_1573 : decode code 1573 = .ok (.aload_n 1, 1) := by decide +kernel
theorem dL_1574 : decode code 1574 = .ok (.invokevirtual 214, 3) := by decide +kernel
theorem dL_1577 : decode code 1577 = .ok (.pop, 1) := by decide +kernel
theorem dL_1578 : decode code 1578 = .ok (.aload_n 2, 1) := by decide +kernel
theorem dL_1579 : decode code 1579 = .ok (.invokevirtual 217, 3) := by decide +kernel
theorem dL_1582 : decode code 1582 = .ok (.pop, 1) := by decide +kernel
theorem dL_1583 : decode code 1583 = .ok (.goto 769, 3) := by decide +kernel
theorem dL_1586 : decode code 1586 = .ok (.aload_n 1, 1) := by decide +kernel
theorem dL_1587 : decode code 1587 = .ok (.aload_n 0, 1) := by decide +kernel
theorem dL_1588 : decode code 1588 = .ok (.iload_n 3, 1) := by decide +kernel
theorem dL_1589 : decode code 1589 = .ok (.iconst 1, 1) := by decide +kernel
theorem dL_1590 : decode code 1590 = .ok (.iadd, 1) := by decide +kernel
theorem dL_1591 : decode code 1591 = .ok (.iaload, 1) := by decide +kernel
theorem dL_1592 : decode code 1592 = .ok (.invokevirtual 218, 3) := by decide +kernel
theorem dL_1595 : decode code 1595 = .ok (.pop, 1) := by decide +kernel
theorem dL_1596 : decode code 1596 = .ok (.aload_n 2, 1) := by decide +kernel
theorem dL_1597 : decode code 1597 = .ok (.aload_n 0, 1) := by decide +kernel
theorem dL_1598 : decode code 1598 = .ok (.iload_n 3, 1) := by decide +kernel
theorem dL_1599 : decode code 1599 = .ok (.iconst 1, 1) := by decide +kernel
theorem dL_1600 : decode code 1600 = .ok (.iadd, 1) := by decide +kernel
theorem dL_1601 : decode code 1601 = .ok (.iaload, 1) := by decide +kernel
theorem dL_1602 : decode code 1602 = .ok (.invokevirtual 221, 3) := by decide +kernel
theorem dL_1605 : decode code 1605 = .ok (.pop, 1) := by decide +kernel
theorem dL_1606 : decode code 1606 = .ok (.goto 746, 3) := by decide +kernel
theorem dL_1609 : decode code 1609 = .ok (.aload_n 1, 1) := by decide +kernel
theorem dL_1610 : decode code 1610 = .ok (.aload_n 0, 1) := by decide +kernel
theorem dL_1611 : decode code 1611 = .ok (.iload_n 3, 1) := by decide +kernel
theorem dL_1612 : decode code 1612 = .ok (.iconst 1, 1) := by decide +kernel
theorem dL_1613 : decode code 1613 = .ok (.iadd, 1) := by decide +kernel
theorem dL_1614 : decode code 1614 = .ok (.iaload, 1) := by decide +kernel
theorem dL_1615 : decode code 1615 = .ok (.aload_n 0, 1) := by decide +kernel
theorem dL_1616 : decode code 1616 = .ok (.iload_n 3, 1) := by decide +kernel
theorem dL_1617 : decode code 1617 = .ok (.iconst 2, 1) := by decide +kernel
theorem dL_1618 : decode code 1618 = .ok (.iadd, 1) := by decide +kernel
theorem dL_1619 : decode code 1619 = .ok (.iaload, 1) := by decide +kernel
theorem dL_1620 : decode code 1620 = .ok (.invokevirtual 222, 3) := by decide +kernel
theorem dL_1623 : decode code 1623 = .ok (.pop, 1) := by decide +kernel
theorem dL_1624 : decode code 1624 = .ok (.aload_n 2, 1) := by decide +kernel
theorem dL_1625 : decode code 1625 = .ok (.aload_n 0, 1) := by decide +kernel
theorem dL_1626 : decode code 1626 = .ok (.iload_n 3, 1) := by decide +kernel
theorem dL_1627 : decode code 1627 = .ok (.iconst 1, 1) := by decide +kernel
theorem dL_1628 : decode code 1628 = .ok (.iadd, 1) := by decide +kernel
theorem dL_1629 : decode code 1629 = .ok (.iaload, 1) := by decide +kernel
theorem dL_1630 : decode code 1630 = .ok (.aload_n 0, 1) := by decide +kernel
theorem dL_1631 : decode code 1631 = .ok (.iload_n 3, 1) := by decide +kernel
theorem dL_1632 : decode code 1632 = .ok (.iconst 2, 1) := by decide +kernel
theorem dL_1633 : decode code 1633 = .ok (.iadd, 1) := by decide +kernel
theorem dL_1634 : decode code 1634 = .ok (.iaload, 1) := by decide +kernel
theorem dL_1635 : decode code 1635 = .ok (.invokevirtual 225, 3) := by decide +kernel
theorem dL_1638 : decode code 1638 = .ok (.pop, 1) := by decide +kernel
theorem dL_1639 : decode code 1639 = .ok (.goto 713, 3) := by decide +kernel
theorem dL_1642 : decode code 1642 = .ok (.aload_n 1, 1) := by decide +kernel
theorem dL_1643 : decode code 1643 = .ok (.aload_n 0, 1) := by decide +kernel
theorem dL_1644 : decode code 1644 = .ok (.iload_n 3, 1) := by decide +kernel
theorem dL_1645 : decode code 1645 = .ok (.iconst 1, 1) := by decide +kernel
theorem dL_1646 : decode code 1646 = .ok (.iadd, 1) := by decide +kernel
theorem dL_1647 : decode code 1647 = .ok (.iaload, 1) := by decide +kernel
theorem dL_1648 : decode code 1648 = .ok (.aload_n 0, 1) := by decide +kernel
theorem dL_1649 : decode code 1649 = .ok (.iload_n 3, 1) := by decide +kernel
theorem dL_1650 : decode code 1650 = .ok (.iconst 2, 1) := by decide +kernel
theorem dL_1651 : decode code 1651 = .ok (.iadd, 1) := by decide +kernel
theorem dL_1652 : decode code 1652 = .ok (.iaload, 1) := by decide +kernel
theorem dL_1653 : decode code 1653 = .ok (.invokevirtual 226, 3) := by decide +kernel
theorem dL_1656 : decode code 1656 = .ok (.pop, 1) := by decide +kernel
theorem dL_1657 : decode code 1657 = .ok (.aload_n 2, 1) := by decide +kernel
theorem dL_1658 : decode code 1658 = .ok (.aload_n 0, 1) := by decide +kernel
theorem dL_1659 : decode code 1659 = .ok (.iload_n 3, 1) := by decide +kernel
theorem dL_1660 : decode code 1660 = .ok (.iconst 1, 1) := by decide +kernel
theorem dL_1661 : decode code 1661 = .ok (.iadd, 1) := by decide +kernel
theorem dL_1662 : decode code 1662 = .ok (.iaload, 1) := by decide +kernel
theorem dL_1663 : decode code 1663 = .ok (.aload_n 0, 1) := by decide +kernel
theorem dL_1664 : decode code 1664 = .ok (.iload_n 3, 1) := by decide +kernel
theorem dL_1665 : decode code 1665 = .ok (.iconst 2, 1) := by decide +kernel
theorem dL_1666 : decode code 1666 = .ok (.iadd, 1) := by decide +kernel
theorem dL_1667 : decode code 1667 = .ok (.iaload, 1) := by decide +kernel
theorem dL_1668 : decode code 1668 = .ok (.invokevirtual 229, 3) := by decide +kernel
theorem dL_1671 : decode code 1671 = .ok (.pop, 1) := by decide +kernel
theorem dL_1672 : decode code 1672 = .ok (.goto 680, 3) := by decide +kernel
theorem dL_1675 : decode code 1675 = .ok (.aload_n 1, 1) := by decide +kernel
theorem dL_1676 : decode code 1676 = .ok (.aload_n 0, 1) := by decide +kernel
theorem dL_1677 : decode code 1677 = .ok (.iload_n 3, 1) := by decide +kernel
theorem dL_1678 : decode code 1678 = .ok (.iconst 1, 1) := by decide +kernel
theorem dL_1679 : decode code 1679 = .ok (.iadd, 1) := by decide +kernel
theorem dL_1680 : decode code 1680 = .ok (.iaload, 1) := by decide +kernel
theorem dL_1681 : decode code 1681 = .ok (.aload_n 0, 1) := by decide +kernel
theorem dL_1682 : decode code 1682 = .ok (.iload_n 3, 1) := by decide +kernel
theorem dL_1683 : decode code 1683 = .ok (.iconst 2, 1) := by decide +kernel
theorem dL_1684 : decode code 1684 = .ok (.iadd, 1) := by decide +kernel
theorem dL_1685 : decode code 1685 = .ok (.iaload, 1) := by decide +kernel
theorem dL_1686 : decode code 1686 = .ok (.invokevirtual 230, 3) := by decide +kernel
theorem dL_1689 : decode code 1689 = .ok (.pop, 1) := by decide +kernel
theorem dL_1690 : decode code 1690 = .ok (.aload_n 2, 1) := by decide +kernel
theorem dL_1691 : decode code 1691 = .ok (.aload_n 0, 1) := by decide +kernel
theorem dL_1692 : decode code 1692 = .ok (.iload_n 3, 1) := by decide +kernel
theorem dL_1693 : decode code 1693 = .ok (.iconst 1, 1) := by decide +kernel
theorem dL_1694 : decode code 1694 = .ok (.iadd, 1) := by decide +kernel
theorem dL_1695 : decode code 1695 = .ok (.iaload, 1) := by decide +kernel
theorem dL_1696 : decode code 1696 = .ok (.aload_n 0, 1) := by decide +kernel
theorem dL_1697 : decode code 1697 = .ok (.iload_n 3, 1) := by decide +kernel
theorem dL_1698 : decode code 1698 = .ok (.iconst 2, 1) := by decide +kernel
theorem dL_1699 : decode code 1699 = .ok (.iadd, 1) := by decide +kernel
theorem dL_1700 : decode code 1700 = .ok (.iaload, 1) := by decide +kernel
theorem dL_1701 : decode code 1701 = .ok (.invokevirtual 233, 3) := by decide +kernel
theorem dL_1704 : decode code 1704 = .ok (.pop, 1) := by decide +kernel
theorem dL_1705 : decode code 1705 = .ok (.goto 647, 3) := by decide +kernel
theorem dL_1708 : decode code 1708 = .ok (.aload_n 1, 1) := by decide +kernel
theorem dL_1709 : decode code 1709 = .ok (.aload_n 0, 1) := by decide +kernel
theorem dL_1710 : decode code 1710 = .ok (.iload_n 3, 1) := by decide +kernel
theorem dL_1711 : decode code 1711 = .ok (.iconst 1, 1) := by decide +kernel
theorem dL_1712 : decode code 1712 = .ok (.iadd, 1) := by decide +kernel
theorem dL_1713 : decode code 1713 = .ok (.iaload, 1) := by decide +kernel
theorem dL_1714 : decode code 1714 = .ok (.aload_n 0, 1) := by decide +kernel
theorem dL_1715 : decode code 1715 = .ok (.iload_n 3, 1) := by decide +kernel
theorem dL_1716 : decode code 1716 = .ok (.iconst 2, 1) := by decide +kernel
theorem dL_1717 : decode code 1717 = .ok (.iadd, 1) := by decide +kernel
theorem dL_1718 : decode code 1718 = .ok (.iaload, 1) := by decide +kernel
theorem dL_1719 : decode code 1719 = .ok (.invokevirtual 234, 3) := by decide +kernel
theorem dL_1722 : decode code 1722 = .ok (.pop, 1) := by decide +kernel
theorem dL_1723 : decode code 1723 = .ok (.aload_n 2, 1) := by decide +kernel
theorem dL_1724 : decode code 1724 = .ok (.aload_n 0, 1) := by decide +kernel
theorem dL_1725 : decode code 1725 = .ok (.iload_n 3, 1) := by decide +kernel
theorem dL_1726 : decode code 1726 = .ok (.iconst 1, 1) := by decide +kernel
theorem dL_1727 : decode code 1727 = .ok (.iadd, 1) := by decide +kernel
theorem dL_1728 : decode code 1728 = .ok (.iaload, 1) := by decide +kernel
theorem dL_1729 : decode code 1729 = .ok (.aload_n 0, 1) := by decide +kernel
theorem dL_1730 : decode code 1730 = .ok (.iload_n 3, 1) := by decide +kernel
theorem dL_1731 : decode code 1731 = .ok (.iconst 2, 1) := by decide +kernel
theorem dL_1732 : decode code 1732 = .ok (.iadd, 1) := by decide +kernel
theorem dL_1733 : decode code 1733 = .ok (.iaload, 1) := by decide +kernel
theorem dL_1734 : decode code 1734 = .ok (.invokevirtual 237, 3) := by decide +kernel
theorem dL_1737 : decode code 1737 = .ok (.pop, 1) := by decide +kernel
theorem dL_1738 : decode code 1738 = .ok (.goto 614, 3) := by decide +kernel
theorem dL_1741 : decode code 1741 = .ok (.aload_n 1, 1) := by decide +kernel
theorem dL_1742 : decode code 1742 = .ok (.aload_n 0, 1) := by decide +kernel
theorem dL_1743 : decode code 1743 = .ok (.iload_n 3, 1) := by decide +kernel
theorem dL_1744 : decode code 1744 = .ok (.iconst 1, 1) := by decide +kernel
theorem dL_1745 : decode code 1745 = .ok (.iadd, 1) := by decide +kernel
theorem dL_1746 : decode code 1746 = .ok (.iaload, 1) := by decide +kernel
theorem dL_1747 : decode code 1747 = .ok (.aload_n 0, 1) := by decide +kernel
theorem dL_1748 : decode code 1748 = .ok (.iload_n 3, 1) := by decide +kernel
theorem dL_1749 : decode code 1749 = .ok (.iconst 2, 1) := by decide +kernel
theorem dL_1750 : decode code 1750 = .ok (.iadd, 1) := by decide +kernel
theorem dL_1751 : decode code 1751 = .ok (.iaload, 1) := by decide +kernel
theorem dL_1752 : decode code 1752 = .ok (.invokevirtual 238, 3) := by decide +kernel
theorem dL_1755 : decode code 1755 = .ok (.pop, 1) := by decide +kernel
theorem dL_1756 : decode code 1756 = .ok (.aload_n 2, 1) := by decide +kernel
theorem dL_1757 : decode code 1757 = .ok (.aload_n 0, 1) := by decide +kernel
theorem dL_1758 : decode code 1758 = .ok (.iload_n 3, 1) := by decide +kernel
theorem dL_1759 : decode code 1759 = .ok (.iconst 1, 1) := by decide +kernel
theorem dL_1760 : decode code 1760 = .ok (.iadd, 1) := by decide +kernel
theorem dL_1761 : decode code 1761 = .ok (.iaload, 1) := by decide +kernel
theorem dL_1762 : decode code 1762 = .ok (.aload_n 0, 1) := by decide +kernel
theorem dL_1763 : decode code 1763 = .ok (.iload_n 3, 1) := by decide +kernel
theorem dL_1764 : decode code 1764 = .ok (.iconst 2, 1) := by decide +kernel
theorem dL_1765 : decode code 1765 = .ok (.iadd, 1) := by decide +kernel
theorem dL_1766 : decode code 1766 = .ok (.iaload, 1) := by decide +kernel
theorem dL_1767 : decode code 1767 = .ok (.invokevirtual 241, 3) := by decide +kernel
theorem dL_1770 : decode code 1770 = .ok (.pop, 1) := by decide +kernel
theorem dL_1771 : decode code 1771 = .ok (.goto 581, 3) := by decide +kernel
theorem dL_1774 : decode code 1774 = .ok (.aload_n 1, 1) := by decide +kernel
theorem dL_1775 : decode code 1775 = .ok (.aload_n 0, 1) := by decide +kernel
theorem dL_1776 : decode code 1776 = .ok (.iload_n 3, 1) := by decide +kernel
theorem dL_1777 : decode code 1777 = .ok (.iconst 1, 1) := by decide +kernel
theorem dL_1778 : decode code 1778 = .ok (.iadd, 1) := by decide +kernel
theorem dL_1779 : decode code 1779 = .ok (.iaload, 1) := by decide +kernel
theorem dL_1780 : decode code 1780 = .ok (.aload_n 0, 1) := by decide +kernel
theorem dL_1781 : decode code 1781 = .ok (.iload_n 3, 1) := by decide +kernel
theorem dL_1782 : decode code 1782 = .ok (.iconst 2, 1) := by decide +kernel
theorem dL_1783 : decode code 1783 = .ok (.iadd, 1) := by decide +kernel
theorem dL_1784 : decode code 1784 = .ok (.iaload, 1) := by decide +kernel
theorem dL_1785 : decode code 1785 = .ok (.aload_n 0, 1) := by decide +kernel
theorem dL_1786 : decode code 1786 = .ok (.iload_n 3, 1) := by decide +kernel
theorem dL_1787 : decode code 1787 = .ok (.iconst 3, 1) := by decide +kernel
theorem dL_1788 : decode code 1788 = .ok (.iadd, 1) := by decide +kernel
theorem dL_1789 : decode code 1789 = .ok (.iaload, 1) := by decide +kernel
theorem dL_1790 : decode code 1790 = .ok (.aload_n 0, 1) := by decide +kernel
theorem dL_1791 : decode code 1791 = .ok (.iload_n 3, 1) := by decide +kernel
theorem dL_1792 : decode code 1792 = .ok (.iconst 4, 1) := by decide +kernel
theorem dL_1793 : decode code 1793 = .ok (.iadd, 1) := by decide +kernel
theorem dL_1794 : decode code 1794 = .ok (.iaload, 1) := by decide +kernel
theorem dL_1795 : decode code 1795 = .ok (.aload_n 0, 1) := by decide +kernel
theorem dL_1796 : decode code 1796 = .ok (.iload_n 3, 1) := by decide +kernel
theorem dL_1797 : decode code 1797 = .ok (.iconst 5, 1) := by decide +kernel
theorem dL_1798 : decode code 1798 = .ok (.iadd, 1) := by decide +kernel
theorem dL_1799 : decode code 1799 = .ok (.iaload, 1) := by decide +kernel
theorem dL_1800 : decode code 1800 = .ok (.invokevirtual 242, 3) := by decide +kernel
theorem dL_1803 : decode code 1803 = .ok (.pop, 1) := by decide +kernel
theorem dL_1804 : decode code 1804 = .ok (.aload_n 2, 1) := by decide +kernel
theorem dL_1805 : decode code 1805 = .ok (.aload_n 0, 1) := by decide +kernel
theorem dL_1806 : decode code 1806 = .ok (.iload_n 3, 1) := by decide +kernel
theorem dL_1807 : decode code 1807 = .ok (.iconst 1, 1) := by decide +kernel
theorem dL_1808 : decode code 1808 = .ok (.iadd, 1) := by decide +kernel
theorem dL_1809 : decode code 1809 = .ok (.iaload, 1) := by decide +kernel
theorem dL_1810 : decode code 1810 = .ok (.aload_n 0, 1) := by decide +kernel
theorem dL_1811 : decode code 1811 = .ok (.iload_n 3, 1) := by decide +kernel
theorem dL_1812 : decode code 1812 = .ok (.iconst 2, 1) := by decide +kernel
theorem dL_1813 : decode code 1813 = .ok (.iadd, 1) := by decide +kernel
theorem dL_1814 : decode code 1814 = .ok (.iaload, 1) := by decide +kernel
theorem dL_1815 : decode code 1815 = .ok (.aload_n 0, 1) := by decide +kernel
theorem dL_1816 : decode code 1816 = .ok (.iload_n 3, 1) := by decide +kernel
theorem dL_1817 : decode code 1817 = .ok (.iconst 3, 1) := by decide +kernel
theorem dL_1818 : decode code 1818 = .ok (.iadd, 1) := by decide +kernel
theorem dL_1819 : decode code 1819 = .ok (.iaload, 1) := by decide +kernel
theorem dL_1820 : decode code 1820 = .ok (.aload_n 0, 1) := by decide +kernel
theorem dL_1821 : decode code 1821 = .ok (.iload_n 3, 1) := by decide +kernel
theorem dL_1822 : decode code 1822 = .ok (.iconst 4, 1) := by decide +kernel
theorem dL_1823 : decode code 1823 = .ok (.iadd, 1) := by decide +kernel
theorem dL_1824 : decode code 1824 = .ok (.iaload, 1) := by decide +kernel
theorem dL_1825 : decode code 1825 = .ok (.aload_n 0, 1) := by decide +kernel
theorem dL_1826 : decode code 1826 = .ok (.iload_n 3, 1) := by decide +kernel
theorem dL_1827 : decode code 1827 = .ok (.iconst 5, 1) := by decide +kernel
theorem dL_1828 : decode code 1828 = .ok (.iadd, 1) := by decide +kernel
theorem dL_1829 : decode code 1829 = .ok (.iaload, 1) := by decide +kernel
theorem dL_1830 : decode code 1830 = .ok (.invokevirtual 245, 3) := by decide +kernel
theorem dL_1833 : decode code 1833 = .ok (.pop, 1) := by decide +kernel
theorem dL_1834 : decode code 1834 = .ok (.goto 518, 3) := by decide +kernel
theorem dL_1837 : decode code 1837 = .ok (.aload_n 1, 1) := by decide +kernel
theorem dL_1838 : decode code 1838 = .ok (.aload_n 0, 1) := by decide +kernel
theorem dL_1839 : decode code 1839 = .ok (.iload_n 3, 1) := by decide +kernel
theorem dL_1840 : decode code 1840 = .ok (.iconst 1, 1) := by decide +kernel
theorem dL_1841 : decode code 1841 = .ok (.iadd, 1) := by decide +kernel
theorem dL_1842 : decode code 1842 = .ok (.iaload, 1) := by decide +kernel
theorem dL_1843 : decode code 1843 = .ok (.aload_n 0, 1) := by decide +kernel
theorem dL_1844 : decode code 1844 = .ok (.iload_n 3, 1) := by decide +kernel
theorem dL_1845 : decode code 1845 = .ok (.iconst 2, 1) := by decide +kernel
theorem dL_1846 : decode code 1846 = .ok (.iadd, 1) := by decide +kernel
theorem dL_1847 : decode code 1847 = .ok (.iaload, 1) := by decide +kernel
theorem dL_1848 : decode code 1848 = .ok (.aload_n 0, 1) := by decide +kernel
theorem dL_1849 : decode code 1849 = .ok (.iload_n 3, 1) := by decide +kernel
theorem dL_1850 : decode code 1850 = .ok (.iconst 3, 1) := by decide +kernel
theorem dL_1851 : decode code 1851 = .ok (.iadd, 1) := by decide +kernel
theorem dL_1852 : decode code 1852 = .ok (.iaload, 1) := by decide +kernel
theorem dL_1853 : decode code 1853 = .ok (.invokevirtual 246, 3) := by decide +kernel
theorem dL_1856 : decode code 1856 = .ok (.pop2, 1) := by decide +kernel
theorem dL_1857 : decode code 1857 = .ok (.aload_n 2, 1) := by decide +kernel
theorem dL_1858 : decode code 1858 = .ok (.aload_n 0, 1) := by decide +kernel
theorem dL_1859 : decode code 1859 = .ok (.iload_n 3, 1) := by decide +kernel
theorem dL_1860 : decode code 1860 = .ok (.iconst 1, 1) := by decide +kernel
