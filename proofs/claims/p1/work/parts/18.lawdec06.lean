theorem dL_law_1454 {nm : String} : pm_dec (mL_law nm) 1454 (.iadd, 1) 1455 := ⟨(by decide +kernel : decode code 1454 = .ok (.iadd, 1)), rfl⟩
theorem dL_law_1455 {nm : String} : pm_dec (mL_law nm) 1455 (.iaload, 1) 1456 := ⟨(by decide +kernel : decode code 1455 = .ok (.iaload, 1)), rfl⟩
theorem dL_law_1456 {nm : String} : pm_dec (mL_law nm) 1456 (.aload_n 0, 1) 1457 := ⟨(by decide +kernel : decode code 1456 = .ok (.aload_n 0, 1)), rfl⟩
theorem dL_law_1457 {nm : String} : pm_dec (mL_law nm) 1457 (.iload_n 3, 1) 1458 := ⟨(by decide +kernel : decode code 1457 = .ok (.iload_n 3, 1)), rfl⟩
theorem dL_law_1458 {nm : String} : pm_dec (mL_law nm) 1458 (.iconst 3, 1) 1459 := ⟨(by decide +kernel : decode code 1458 = .ok (.iconst 3, 1)), rfl⟩
theorem dL_law_1459 {nm : String} : pm_dec (mL_law nm) 1459 (.iadd, 1) 1460 := ⟨(by decide +kernel : decode code 1459 = .ok (.iadd, 1)), rfl⟩
theorem dL_law_1460 {nm : String} : pm_dec (mL_law nm) 1460 (.iaload, 1) 1461 := ⟨(by decide +kernel : decode code 1460 = .ok (.iaload, 1)), rfl⟩
theorem dL_law_1461 {nm : String} : pm_dec (mL_law nm) 1461 (.aload_n 0, 1) 1462 := ⟨(by decide +kernel : decode code 1461 = .ok (.aload_n 0, 1)), rfl⟩
theorem dL_law_1462 {nm : String} : pm_dec (mL_law nm) 1462 (.iload_n 3, 1) 1463 := ⟨(by decide +kernel : decode code 1462 = .ok (.iload_n 3, 1)), rfl⟩
theorem dL_law_1463 {nm : String} : pm_dec (mL_law nm) 1463 (.iconst 4, 1) 1464 := ⟨(by decide +kernel : decode code 1463 = .ok (.iconst 4, 1)), rfl⟩
theorem dL_law_1464 {nm : String} : pm_dec (mL_law nm) 1464 (.iadd, 1) 1465 := ⟨(by decide +kernel : decode code 1464 = .ok (.iadd, 1)), rfl⟩
theorem dL_law_1465 {nm : String} : pm_dec (mL_law nm) 1465 (.iaload, 1) 1466 := ⟨(by decide +kernel : decode code 1465 = .ok (.iaload, 1)), rfl⟩
theorem dL_law_1466 {nm : String} : pm_dec (mL_law nm) 1466 (.ifCond .eq 7, 3) 1469 := ⟨(by decide +kernel : decode code 1466 = .ok (.ifCond .eq 7, 3)), rfl⟩
theorem dL_law_1473 {nm : String} : pm_dec (mL_law nm) 1473 (.iconst 0, 1) 1474 := ⟨(by decide +kernel : decode code 1473 = .ok (.iconst 0, 1)), rfl⟩
theorem dL_law_1474 {nm : String} : pm_dec (mL_law nm) 1474 (.invokevirtual 158, 3) 1477 := ⟨(by decide +kernel : decode code 1474 = .ok (.invokevirtual 158, 3)), rfl⟩
theorem dL_law_1477 {nm : String} : pm_dec (mL_law nm) 1477 (.if_icmp .eq 628, 3) 1480 := ⟨(by decide +kernel : decode code 1477 = .ok (.if_icmp .eq 628, 3)), rfl⟩
theorem dL_law_1437 {nm : String} : pm_dec (mL_law nm) 1437 (.iconst 1, 1) 1438 := ⟨(by decide +kernel : decode code 1437 = .ok (.iconst 1, 1)), rfl⟩
theorem dL_law_1438 {nm : String} : pm_dec (mL_law nm) 1438 (.goto 4, 3) 1441 := ⟨(by decide +kernel : decode code 1438 = .ok (.goto 4, 3)), rfl⟩
theorem dL_law_1469 {nm : String} : pm_dec (mL_law nm) 1469 (.iconst 1, 1) 1470 := ⟨(by decide +kernel : decode code 1469 = .ok (.iconst 1, 1)), rfl⟩
theorem dL_law_1470 {nm : String} : pm_dec (mL_law nm) 1470 (.goto 4, 3) 1473 := ⟨(by decide +kernel : decode code 1470 = .ok (.goto 4, 3)), rfl⟩
theorem dL_law_1482 {nm : String} : pm_dec (mL_law nm) 1482 (.aload_n 1, 1) 1483 := ⟨(by decide +kernel : decode code 1482 = .ok (.aload_n 1, 1)), rfl⟩
theorem dL_law_1483 {nm : String} : pm_dec (mL_law nm) 1483 (.aload_n 0, 1) 1484 := ⟨(by decide +kernel : decode code 1483 = .ok (.aload_n 0, 1)), rfl⟩
theorem dL_law_1484 {nm : String} : pm_dec (mL_law nm) 1484 (.iload_n 3, 1) 1485 := ⟨(by decide +kernel : decode code 1484 = .ok (.iload_n 3, 1)), rfl⟩
theorem dL_law_1485 {nm : String} : pm_dec (mL_law nm) 1485 (.iconst 1, 1) 1486 := ⟨(by decide +kernel : decode code 1485 = .ok (.iconst 1, 1)), rfl⟩
theorem dL_law_1486 {nm : String} : pm_dec (mL_law nm) 1486 (.iadd, 1) 1487 := ⟨(by decide +kernel : decode code 1486 = .ok (.iadd, 1)), rfl⟩
theorem dL_law_1487 {nm : String} : pm_dec (mL_law nm) 1487 (.iaload, 1) 1488 := ⟨(by decide +kernel : decode code 1487 = .ok (.iaload, 1)), rfl⟩
theorem dL_law_1488 {nm : String} : pm_dec (mL_law nm) 1488 (.invokevirtual 159, 3) 1491 := ⟨(by decide +kernel : decode code 1488 = .ok (.invokevirtual 159, 3)), rfl⟩
theorem dL_law_1491 {nm : String} : pm_dec (mL_law nm) 1491 (.aload_n 2, 1) 1492 := ⟨(by decide +kernel : decode code 1491 = .ok (.aload_n 2, 1)), rfl⟩
theorem dL_law_1492 {nm : String} : pm_dec (mL_law nm) 1492 (.aload_n 0, 1) 1493 := ⟨(by decide +kernel : decode code 1492 = .ok (.aload_n 0, 1)), rfl⟩
theorem dL_law_1493 {nm : String} : pm_dec (mL_law nm) 1493 (.iload_n 3, 1) 1494 := ⟨(by decide +kernel : decode code 1493 = .ok (.iload_n 3, 1)), rfl⟩
theorem dL_law_1494 {nm : String} : pm_dec (mL_law nm) 1494 (.iconst 1, 1) 1495 := ⟨(by decide +kernel : decode code 1494 = .ok (.iconst 1, 1)), rfl⟩
theorem dL_law_1495 {nm : String} : pm_dec (mL_law nm) 1495 (.iadd, 1) 1496 := ⟨(by decide +kernel : decode code 1495 = .ok (.iadd, 1)), rfl⟩
theorem dL_law_1496 {nm : String} : pm_dec (mL_law nm) 1496 (.iaload, 1) 1497 := ⟨(by decide +kernel : decode code 1496 = .ok (.iaload, 1)), rfl⟩
theorem dL_law_1497 {nm : String} : pm_dec (mL_law nm) 1497 (.invokevirtual 162, 3) 1500 := ⟨(by decide +kernel : decode code 1497 = .ok (.invokevirtual 162, 3)), rfl⟩
theorem dL_law_1500 {nm : String} : pm_dec (mL_law nm) 1500 (.if_icmp .eq 605, 3) 1503 := ⟨(by decide +kernel : decode code 1500 = .ok (.if_icmp .eq 605, 3)), rfl⟩
theorem dL_law_1505 {nm : String} : pm_dec (mL_law nm) 1505 (.aload_n 1, 1) 1506 := ⟨(by decide +kernel : decode code 1505 = .ok (.aload_n 1, 1)), rfl⟩
theorem dL_law_1506 {nm : String} : pm_dec (mL_law nm) 1506 (.aload_n 0, 1) 1507 := ⟨(by decide +kernel : decode code 1506 = .ok (.aload_n 0, 1)), rfl⟩
theorem dL_law_1507 {nm : String} : pm_dec (mL_law nm) 1507 (.iload_n 3, 1) 1508 := ⟨(by decide +kernel : decode code 1507 = .ok (.iload_n 3, 1)), rfl⟩
theorem dL_law_1508 {nm : String} : pm_dec (mL_law nm) 1508 (.iconst 1, 1) 1509 := ⟨(by decide +kernel : decode code 1508 = .ok (.iconst 1, 1)), rfl⟩
theorem dL_law_1509 {nm : String} : pm_dec (mL_law nm) 1509 (.iadd, 1) 1510 := ⟨(by decide +kernel : decode code 1509 = .ok (.iadd, 1)), rfl⟩
theorem dL_law_1510 {nm : String} : pm_dec (mL_law nm) 1510 (.iaload, 1) 1511 := ⟨(by decide +kernel : decode code 1510 = .ok (.iaload, 1)), rfl⟩
theorem dL_law_1511 {nm : String} : pm_dec (mL_law nm) 1511 (.aload_n 0, 1) 1512 := ⟨(by decide +kernel : decode code 1511 = .ok (.aload_n 0, 1)), rfl⟩
theorem dL_law_1512 {nm : String} : pm_dec (mL_law nm) 1512 (.iload_n 3, 1) 1513 := ⟨(by decide +kernel : decode code 1512 = .ok (.iload_n 3, 1)), rfl⟩
theorem dL_law_1513 {nm : String} : pm_dec (mL_law nm) 1513 (.iconst 2, 1) 1514 := ⟨(by decide +kernel : decode code 1513 = .ok (.iconst 2, 1)), rfl⟩
theorem dL_law_1514 {nm : String} : pm_dec (mL_law nm) 1514 (.iadd, 1) 1515 := ⟨(by decide +kernel : decode code 1514 = .ok (.iadd, 1)), rfl⟩
theorem dL_law_1515 {nm : String} : pm_dec (mL_law nm) 1515 (.iaload, 1) 1516 := ⟨(by decide +kernel : decode code 1515 = .ok (.iaload, 1)), rfl⟩
theorem dL_law_1516 {nm : String} : pm_dec (mL_law nm) 1516 (.invokevirtual 163, 3) 1519 := ⟨(by decide +kernel : decode code 1516 = .ok (.invokevirtual 163, 3)), rfl⟩
theorem dL_law_1519 {nm : String} : pm_dec (mL_law nm) 1519 (.aload_n 2, 1) 1520 := ⟨(by decide +kernel : decode code 1519 = .ok (.aload_n 2, 1)), rfl⟩
theorem dL_law_1520 {nm : String} : pm_dec (mL_law nm) 1520 (.aload_n 0, 1) 1521 := ⟨(by decide +kernel : decode code 1520 = .ok (.aload_n 0, 1)), rfl⟩
theorem dL_law_1521 {nm : String} : pm_dec (mL_law nm) 1521 (.iload_n 3, 1) 1522 := ⟨(by decide +kernel : decode code 1521 = .ok (.iload_n 3, 1)), rfl⟩
theorem dL_law_1522 {nm : String} : pm_dec (mL_law nm) 1522 (.iconst 1, 1) 1523 := ⟨(by decide +kernel : decode code 1522 = .ok (.iconst 1, 1)), rfl⟩
theorem dL_law_1523 {nm : String} : pm_dec (mL_law nm) 1523 (.iadd, 1) 1524 := ⟨(by decide +kernel : decode code 1523 = .ok (.iadd, 1)), rfl⟩
theorem dL_law_1524 {nm : String} : pm_dec (mL_law nm) 1524 (.iaload, 1) 1525 := ⟨(by decide +kernel : decode code 1524 = .ok (.iaload, 1)), rfl⟩
theorem dL_law_1525 {nm : String} : pm_dec (mL_law nm) 1525 (.aload_n 0, 1) 1526 := ⟨(by decide +kernel : decode code 1525 = .ok (.aload_n 0, 1)), rfl⟩
theorem dL_law_1526 {nm : String} : pm_dec (mL_law nm) 1526 (.iload_n 3, 1) 1527 := ⟨(by decide +kernel : decode code 1526 = .ok (.iload_n 3, 1)), rfl⟩
theorem dL_law_1527 {nm : String} : pm_dec (mL_law nm) 1527 (.iconst 2, 1) 1528 := ⟨(by decide +kernel : decode code 1527 = .ok (.iconst 2, 1)), rfl⟩
theorem dL_law_1528 {nm : String} : pm_dec (mL_law nm) 1528 (.iadd, 1) 1529 := ⟨(by decide +kernel : decode code 1528 = .ok (.iadd, 1)), rfl⟩
theorem dL_law_1529 {nm : String} : pm_dec (mL_law nm) 1529 (.iaload, 1) 1530 := ⟨(by decide +kernel : decode code 1529 = .ok (.iaload, 1)), rfl⟩
theorem dL_law_1530 {nm : String} : pm_dec (mL_law nm) 1530 (.invokevirtual 166, 3) 1533 := ⟨(by decide +kernel : decode code 1530 = .ok (.invokevirtual 166, 3)), rfl⟩
theorem dL_law_1533 {nm : String} : pm_dec (mL_law nm) 1533 (.if_icmp .eq 572, 3) 1536 := ⟨(by decide +kernel : decode code 1533 = .ok (.if_icmp .eq 572, 3)), rfl⟩
theorem dL_law_1538 {nm : String} : pm_dec (mL_law nm) 1538 (.aload_n 1, 1) 1539 := ⟨(by decide +kernel : decode code 1538 = .ok (.aload_n 1, 1)), rfl⟩
theorem dL_law_1539 {nm : String} : pm_dec (mL_law nm) 1539 (.aload_n 0, 1) 1540 := ⟨(by decide +kernel : decode code 1539 = .ok (.aload_n 0, 1)), rfl⟩
theorem dL_law_1540 {nm : String} : pm_dec (mL_law nm) 1540 (.iload_n 3, 1) 1541 := ⟨(by decide +kernel : decode code 1540 = .ok (.iload_n 3, 1)), rfl⟩
theorem dL_law_1541 {nm : String} : pm_dec (mL_law nm) 1541 (.iconst 1, 1) 1542 := ⟨(by decide +kernel : decode code 1541 = .ok (.iconst 1, 1)), rfl⟩
theorem dL_law_1542 {nm : String} : pm_dec (mL_law nm) 1542 (.iadd, 1) 1543 := ⟨(by decide +kernel : decode code 1542 = .ok (.iadd, 1)), rfl⟩
theorem dL_law_1543 {nm : String} : pm_dec (mL_law nm) 1543 (.iaload, 1) 1544 := ⟨(by decide +kernel : decode code 1543 = .ok (.iaload, 1)), rfl⟩
theorem dL_law_1544 {nm : String} : pm_dec (mL_law nm) 1544 (.aload_n 0, 1) 1545 := ⟨(by decide +kernel : decode code 1544 = .ok (.aload_n 0, 1)), rfl⟩
theorem dL_law_1545 {nm : String} : pm_dec (mL_law nm) 1545 (.iload_n 3, 1) 1546 := ⟨(by decide +kernel : decode code 1545 = .ok (.iload_n 3, 1)), rfl⟩
theorem dL_law_1546 {nm : String} : pm_dec (mL_law nm) 1546 (.iconst 2, 1) 1547 := ⟨(by decide +kernel : decode code 1546 = .ok (.iconst 2, 1)), rfl⟩
theorem dL_law_1547 {nm : String} : pm_dec (mL_law nm) 1547 (.iadd, 1) 1548 := ⟨(by decide +kernel : decode code 1547 = .ok (.iadd, 1)), rfl⟩
theorem dL_law_1548 {nm : String} : pm_dec (mL_law nm) 1548 (.iaload, 1) 1549 := ⟨(by decide +kernel : decode code 1548 = .ok (.iaload, 1)), rfl⟩
theorem dL_law_1549 {nm : String} : pm_dec (mL_law nm) 1549 (.invokevirtual 167, 3) 1552 := ⟨(by decide +kernel : decode code 1549 = .ok (.invokevirtual 167, 3)), rfl⟩
theorem dL_law_1552 {nm : String} : pm_dec (mL_law nm) 1552 (.aload_n 2, 1) 1553 := ⟨(by decide +kernel : decode code 1552 = .ok (.aload_n 2, 1)), rfl⟩
theorem dL_law_1553 {nm : String} : pm_dec (mL_law nm) 1553 (.aload_n 0, 1) 1554 := ⟨(by decide +kernel : decode code 1553 = .ok (.aload_n 0, 1)), rfl⟩
theorem dL_law_1554 {nm : String} : pm_dec (mL_law nm) 1554 (.iload_n 3, 1) 1555 := ⟨(by decide +kernel : decode code 1554 = .ok (.iload_n 3, 1)), rfl⟩
theorem dL_law_1555 {nm : String} : pm_dec (mL_law nm) 1555 (.iconst 1, 1) 1556 := ⟨(by decide +kernel : decode code 1555 = .ok (.iconst 1, 1)), rfl⟩
theorem dL_law_1556 {nm : String} : pm_dec (mL_law nm) 1556 (.iadd, 1) 1557 := ⟨(by decide +kernel : decode code 1556 = .ok (.iadd, 1)), rfl⟩
theorem dL_law_1557 {nm : String} : pm_dec (mL_law nm) 1557 (.iaload, 1) 1558 := ⟨(by decide +kernel : decode code 1557 = .ok (.iaload, 1)), rfl⟩
theorem dL_law_1558 {nm : String} : pm_dec (mL_law nm) 1558 (.aload_n 0, 1) 1559 := ⟨(by decide +kernel : decode code 1558 = .ok (.aload_n 0, 1)), rfl⟩
theorem dL_law_1559 {nm : String} : pm_dec (mL_law nm) 1559 (.iload_n 3, 1) 1560 := ⟨(by decide +kernel : decode code 1559 = .ok (.iload_n 3, 1)), rfl⟩
theorem dL_law_1560 {nm : String} : pm_dec (mL_law nm) 1560 (.iconst 2, 1) 1561 := ⟨(by decide +kernel : decode code 1560 = .ok (.iconst 2, 1)), rfl⟩
theorem dL_law_1561 {nm : String} : pm_dec (mL_law nm) 1561 (.iadd, 1) 1562 := ⟨(by decide +kernel : decode code 1561 = .ok (.iadd, 1)), rfl⟩
theorem dL_law_1562 {nm : String} : pm_dec (mL_law nm) 1562 (.iaload, 1) 1563 := ⟨(by decide +kernel : decode code 1562 = .ok (.iaload, 1)), rfl⟩
theorem dL_law_1563 {nm : String} : pm_dec (mL_law nm) 1563 (.invokevirtual 170, 3) 1566 := ⟨(by decide +kernel : decode code 1563 = .ok (.invokevirtual 170, 3)), rfl⟩
theorem dL_law_1566 {nm : String} : pm_dec (mL_law nm) 1566 (.if_icmp .eq 539, 3) 1569 := ⟨(by decide +kernel : decode code 1566 = .ok (.if_icmp .eq 539, 3)), rfl⟩
theorem dL_law_1571 {nm : String} : pm_dec (mL_law nm) 1571 (.aload_n 1, 1) 1572 := ⟨(by decide +kernel : decode code 1571 = .ok (.aload_n 1, 1)), rfl⟩
theorem dL_law_1572 {nm : String} : pm_dec (mL_law nm) 1572 (.aload_n 0, 1) 1573 := ⟨(by decide +kernel : decode code 1572 = .ok (.aload_n 0, 1)), rfl⟩
theorem dL_law_1573 {nm : String} : pm_dec (mL_law nm) 1573 (.iload_n 3, 1) 1574 := ⟨(by decide +kernel : decode code 1573 = .ok (.iload_n 3, 1)), rfl⟩
theorem dL_law_1574 {nm : String} : pm_dec (mL_law nm) 1574 (.iconst 1, 1) 1575 := ⟨(by decide +kernel : decode code 1574 = .ok (.iconst 1, 1)), rfl⟩
theorem dL_law_1575 {nm : String} : pm_dec (mL_law nm) 1575 (.iadd, 1) 1576 := ⟨(by decide +kernel : decode code 1575 = .ok (.iadd, 1)), rfl⟩
theorem dL_law_1576 {nm : String} : pm_dec (mL_law nm) 1576 (.iaload, 1) 1577 := ⟨(by decide +kernel : decode code 1576 = .ok (.iaload, 1)), rfl⟩
theorem dL_law_1577 {nm : String} : pm_dec (mL_law nm) 1577 (.aload_n 0, 1) 1578 := ⟨(by decide +kernel : decode code 1577 = .ok (.aload_n 0, 1)), rfl⟩
theorem dL_law_1578 {nm : String} : pm_dec (mL_law nm) 1578 (.iload_n 3, 1) 1579 := ⟨(by decide +kernel : decode code 1578 = .ok (.iload_n 3, 1)), rfl⟩
theorem dL_law_1579 {nm : String} : pm_dec (mL_law nm) 1579 (.iconst 2, 1) 1580 := ⟨(by decide +kernel : decode code 1579 = .ok (.iconst 2, 1)), rfl⟩
theorem dL_law_1580 {nm : String} : pm_dec (mL_law nm) 1580 (.iadd, 1) 1581 := ⟨(by decide +kernel : decode code 1580 = .ok (.iadd, 1)), rfl⟩
theorem dL_law_1581 {nm : String} : pm_dec (mL_law nm) 1581 (.iaload, 1) 1582 := ⟨(by decide +kernel : decode code 1581 = .ok (.iaload, 1)), rfl⟩
theorem dL_law_1582 {nm : String} : pm_dec (mL_law nm) 1582 (.invokevirtual 171, 3) 1585 := ⟨(by decide +kernel : decode code 1582 = .ok (.invokevirtual 171, 3)), rfl⟩
theorem dL_law_1585 {nm : String} : pm_dec (mL_law nm) 1585 (.aload_n 2, 1) 1586 := ⟨(by decide +kernel : decode code 1585 = .ok (.aload_n 2, 1)), rfl⟩
theorem dL_law_1586 {nm : String} : pm_dec (mL_law nm) 1586 (.aload_n 0, 1) 1587 := ⟨(by decide +kernel : decode code 1586 = .ok (.aload_n 0, 1)), rfl⟩
theorem dL_law_1587 {nm : String} : pm_dec (mL_law nm) 1587 (.iload_n 3, 1) 1588 := ⟨(by decide +kernel : decode code 1587 = .ok (.iload_n 3, 1)), rfl⟩
theorem dL_law_1588 {nm : String} : pm_dec (mL_law nm) 1588 (.iconst 1, 1) 1589 := ⟨(by decide +kernel : decode code 1588 = .ok (.iconst 1, 1)), rfl⟩
theorem dL_law_1589 {nm : String} : pm_dec (mL_law nm) 1589 (.iadd, 1) 1590 := ⟨(by decide +kernel : decode code 1589 = .ok (.iadd, 1)), rfl⟩
theorem dL_law_1590 {nm : String} : pm_dec (mL_law nm) 1590 (.iaload, 1) 1591 := ⟨(by decide +kernel : decode code 1590 = .ok (.iaload, 1)), rfl⟩
theorem dL_law_1591 {nm : String} : pm_dec (mL_law nm) 1591 (.aload_n 0, 1) 1592 := ⟨(by decide +kernel : decode code 1591 = .ok (.aload_n 0, 1)), rfl⟩
theorem dL_law_1592 {nm : String} : pm_dec (mL_law nm) 1592 (.iload_n 3, 1) 1593 := ⟨(by decide +kernel : decode code 1592 = .ok (.iload_n 3, 1)), rfl⟩
theorem dL_law_1593 {nm : String} : pm_dec (mL_law nm) 1593 (.iconst 2, 1) 1594 := ⟨(by decide +kernel : decode code 1593 = .ok (.iconst 2, 1)), rfl⟩
theorem dL_law_1594 {nm : String} : pm_dec (mL_law nm) 1594 (.iadd, 1) 1595 := ⟨(by decide +kernel : decode code 1594 = .ok (.iadd, 1)), rfl⟩
theorem dL_law_1595 {nm : String} : pm_dec (mL_law nm) 1595 (.iaload, 1) 1596 := ⟨(by decide +kernel : decode code 1595 = .ok (.iaload, 1)), rfl⟩
theorem dL_law_1596 {nm : String} : pm_dec (mL_law nm) 1596 (.invokevirtual 174, 3) 1599 := ⟨(by decide +kernel : decode code 1596 = .ok (.invokevirtual 174, 3)), rfl⟩
theorem dL_law_1599 {nm : String} : pm_dec (mL_law nm) 1599 (.if_icmp .eq 506, 3) 1602 := ⟨(by decide +kernel : decode code 1599 = .ok (.if_icmp .eq 506, 3)), rfl⟩
theorem dL_law_1604 {nm : String} : pm_dec (mL_law nm) 1604 (.aload_n 1, 1) 1605 := ⟨(by decide +kernel : decode code 1604 = .ok (.aload_n 1, 1)), rfl⟩
theorem dL_law_1605 {nm : String} : pm_dec (mL_law nm) 1605 (.aload_n 0, 1) 1606 := ⟨(by decide +kernel : decode code 1605 = .ok (.aload_n 0, 1)), rfl⟩
theorem dL_law_1606 {nm : String} : pm_dec (mL_law nm) 1606 (.iload_n 3, 1) 1607 := ⟨(by decide +kernel : decode code 1606 = .ok (.iload_n 3, 1)), rfl⟩
theorem dL_law_1607 {nm : String} : pm_dec (mL_law nm) 1607 (.iconst 1, 1) 1608 := ⟨(by decide +kernel : decode code 1607 = .ok (.iconst 1, 1)), rfl⟩
theorem dL_law_1608 {nm : String} : pm_dec (mL_law nm) 1608 (.iadd, 1) 1609 := ⟨(by decide +kernel : decode code 1608 = .ok (.iadd, 1)), rfl⟩
theorem dL_law_1609 {nm : String} : pm_dec (mL_law nm) 1609 (.iaload, 1) 1610 := ⟨(by decide +kernel : decode code 1609 = .ok (.iaload, 1)), rfl⟩
theorem dL_law_1610 {nm : String} : pm_dec (mL_law nm) 1610 (.aload_n 0, 1) 1611 := ⟨(by decide +kernel : decode code 1610 = .ok (.aload_n 0, 1)), rfl⟩
theorem dL_law_1611 {nm : String} : pm_dec (mL_law nm) 1611 (.iload_n 3, 1) 1612 := ⟨(by decide +kernel : decode code 1611 = .ok (.iload_n 3, 1)), rfl⟩
theorem dL_law_1612 {nm : String} : pm_dec (mL_law nm) 1612 (.iconst 2, 1) 1613 := ⟨(by decide +kernel : decode code 1612 = .ok (.iconst 2, 1)), rfl⟩
theorem dL_law_1613 {nm : String} : pm_dec (mL_law nm) 1613 (.iadd, 1) 1614 := ⟨(by decide +kernel : decode code 1613 = .ok (.iadd, 1)), rfl⟩
theorem dL_law_1614 {nm : String} : pm_dec (mL_law nm) 1614 (.iaload, 1) 1615 := ⟨(by decide +kernel : decode code 1614 = .ok (.iaload, 1)), rfl⟩
theorem dL_law_1615 {nm : String} : pm_dec (mL_law nm) 1615 (.invokevirtual 175, 3) 1618 := ⟨(by decide +kernel : decode code 1615 = .ok (.invokevirtual 175, 3)), rfl⟩
theorem dL_law_1618 {nm : String} : pm_dec (mL_law nm) 1618 (.aload_n 2, 1) 1619 := ⟨(by decide +kernel : decode code 1618 = .ok (.aload_n 2, 1)), rfl⟩
theorem dL_law_1619 {nm : String} : pm_dec (mL_law nm) 1619 (.aload_n 0, 1) 1620 := ⟨(by decide +kernel : decode code 1619 = .ok (.aload_n 0, 1)), rfl⟩
theorem dL_law_1620 {nm : String} : pm_dec (mL_law nm) 1620 (.iload_n 3, 1) 1621 := ⟨(by decide +kernel : decode code 1620 = .ok (.iload_n 3, 1)), rfl⟩
theorem dL_law_1621 {nm : String} : pm_dec (mL_law nm) 1621 (.iconst 1, 1) 1622 := ⟨(by decide +kernel : decode code 1621 = .ok (.iconst 1, 1)), rfl⟩
theorem dL_law_1622 {nm : String} : pm_dec (mL_law nm) 1622 (.iadd, 1) 1623 := ⟨(by decide +kernel : decode code 1622 = .ok (.iadd, 1)), rfl⟩
theorem dL_law_1623 {nm : String} : pm_dec (mL_law nm) 1623 (.iaload, 1) 1624 := ⟨(by decide +kernel : decode code 1623 = .ok (.iaload, 1)), rfl⟩
theorem dL_law_1624 {nm : String} : pm_dec (mL_law nm) 1624 (.aload_n 0, 1) 1625 := ⟨(by decide +kernel : decode code 1624 = .ok (.aload_n 0, 1)), rfl⟩
theorem dL_law_1625 {nm : String} : pm_dec (mL_law nm) 1625 (.iload_n 3, 1) 1626 := ⟨(by decide +kernel : decode code 1625 = .ok (.iload_n 3, 1)), rfl⟩
theorem dL_law_1626 {nm : String} : pm_dec (mL_law nm) 1626 (.iconst 2, 1) 1627 := ⟨(by decide +kernel : decode code 1626 = .ok (.iconst 2, 1)), rfl⟩
theorem dL_law_1627 {nm : String} : pm_dec (mL_law nm) 1627 (.iadd, 1) 1628 := ⟨(by decide +kernel : decode code 1627 = .ok (.iadd, 1)), rfl⟩
theorem dL_law_1628 {nm : String} : pm_dec (mL_law nm) 1628 (.iaload, 1) 1629 := ⟨(by decide +kernel : decode code 1628 = .ok (.iaload, 1)), rfl⟩
theorem dL_law_1629 {nm : String} : pm_dec (mL_law nm) 1629 (.invokevirtual 178, 3) 1632 := ⟨(by decide +kernel : decode code 1629 = .ok (.invokevirtual 178, 3)), rfl⟩
theorem dL_law_1632 {nm : String} : pm_dec (mL_law nm) 1632 (.if_icmp .eq 473, 3) 1635 := ⟨(by decide +kernel : decode code 1632 = .ok (.if_icmp .eq 473, 3)), rfl⟩
theorem dL_law_1637 {nm : String} : pm_dec (mL_law nm) 1637 (.aload_n 1, 1) 1638 := ⟨(by decide +kernel : decode code 1637 = .ok (.aload_n 1, 1)), rfl⟩
theorem dL_law_1638 {nm : String} : pm_dec (mL_law nm) 1638 (.aload_n 0, 1) 1639 := ⟨(by decide +kernel : decode code 1638 = .ok (.aload_n 0, 1)), rfl⟩
theorem dL_law_1639 {nm : String} : pm_dec (mL_law nm) 1639 (.iload_n 3, 1) 1640 := ⟨(by decide +kernel : decode code 1639 = .ok (.iload_n 3, 1)), rfl⟩
theorem dL_law_1640 {nm : String} : pm_dec (mL_law nm) 1640 (.iconst 1, 1) 1641 := ⟨(by decide +kernel : decode code 1640 = .ok (.iconst 1, 1)), rfl⟩
theorem dL_law_1641 {nm : String} : pm_dec (mL_law nm) 1641 (.iadd, 1) 1642 := ⟨(by decide +kernel : decode code 1641 = .ok (.iadd, 1)), rfl⟩
theorem dL_law_1642 {nm : String} : pm_dec (mL_law nm) 1642 (.iaload, 1) 1643 := ⟨(by decide +kernel : decode code 1642 = .ok (.iaload, 1)), rfl⟩
theorem dL_law_1643 {nm : String} : pm_dec (mL_law nm) 1643 (.aload_n 0, 1) 1644 := ⟨(by decide +kernel : decode code 1643 = .ok (.aload_n 0, 1)), rfl⟩
theorem dL_law_1644 {nm : String} : pm_dec (mL_law nm) 1644 (.iload_n 3, 1) 1645 := ⟨(by decide +kernel : decode code 1644 = .ok (.iload_n 3, 1)), rfl⟩
theorem dL_law_1645 {nm : String} : pm_dec (mL_law nm) 1645 (.iconst 2, 1) 1646 := ⟨(by decide +kernel : decode code 1645 = .ok (.iconst 2, 1)), rfl⟩
theorem dL_law_1646 {nm : String} : pm_dec (mL_law nm) 1646 (.iadd, 1) 1647 := ⟨(by decide +kernel : decode code 1646 = .ok (.iadd, 1)), rfl⟩
theorem dL_law_1647 {nm : String} : pm_dec (mL_law nm) 1647 (.iaload, 1) 1648 := ⟨(by decide +kernel : decode code 1647 = .ok (.iaload, 1)), rfl⟩
theorem dL_law_1648 {nm : String} : pm_dec (mL_law nm) 1648 (.aload_n 0, 1) 1649 := ⟨(by decide +kernel : decode code 1648 = .ok (.aload_n 0, 1)), rfl⟩
theorem dL_law_1649 {nm : String} : pm_dec (mL_law nm) 1649 (.iload_n 3, 1) 1650 := ⟨(by decide +kernel : decode code 1649 = .ok (.iload_n 3, 1)), rfl⟩
theorem dL_law_1650 {nm : String} : pm_dec (mL_law nm) 1650 (.iconst 3, 1) 1651 := ⟨(by decide +kernel : decode code 1650 = .ok (.iconst 3, 1)), rfl⟩
theorem dL_law_1651 {nm : String} : pm_dec (mL_law nm) 1651 (.iadd, 1) 1652 := ⟨(by decide +kernel : decode code 1651 = .ok (.iadd, 1)), rfl⟩
