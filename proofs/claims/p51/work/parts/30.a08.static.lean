theorem dL_law_1546 {nm : String} : pm_dec (mL_law nm) 1546 (.iconst 2, 1) 1547 := ⟨(by decide +kernel : decode code 1546 = .ok (.iconst 2, 1)), rfl⟩
theorem dL_law_1547 {nm : String} : pm_dec (mL_law nm) 1547 (.iadd, 1) 1548 := ⟨(by decide +kernel : decode code 1547 = .ok (.iadd, 1)), rfl⟩
theorem dL_law_1548 {nm : String} : pm_dec (mL_law nm) 1548 (.iaload, 1) 1549 := ⟨(by decide +kernel : decode code 1548 = .ok (.iaload, 1)), rfl⟩
theorem dL_law_1549 {nm : String} : pm_dec (mL_law nm) 1549 (.invokevirtual 167, 3) 1552 := ⟨(by decide +kernel : decode code 1549 = .ok (.invokevirtual 167, 3)), rfl⟩
theorem dL_law_1552 {nm : String} : pm_dec (mL_law nm) 1552 (.pop, 1) 1553 := ⟨(by decide +kernel : decode code 1552 = .ok (.pop, 1)), rfl⟩
theorem dL_law_1553 {nm : String} : pm_dec (mL_law nm) 1553 (.aload_n 2, 1) 1554 := ⟨(by decide +kernel : decode code 1553 = .ok (.aload_n 2, 1)), rfl⟩
theorem dL_law_1554 {nm : String} : pm_dec (mL_law nm) 1554 (.aload_n 0, 1) 1555 := ⟨(by decide +kernel : decode code 1554 = .ok (.aload_n 0, 1)), rfl⟩
theorem dL_law_1555 {nm : String} : pm_dec (mL_law nm) 1555 (.iload_n 3, 1) 1556 := ⟨(by decide +kernel : decode code 1555 = .ok (.iload_n 3, 1)), rfl⟩
theorem dL_law_1556 {nm : String} : pm_dec (mL_law nm) 1556 (.iconst 1, 1) 1557 := ⟨(by decide +kernel : decode code 1556 = .ok (.iconst 1, 1)), rfl⟩
theorem dL_law_1557 {nm : String} : pm_dec (mL_law nm) 1557 (.iadd, 1) 1558 := ⟨(by decide +kernel : decode code 1557 = .ok (.iadd, 1)), rfl⟩
theorem dL_law_1558 {nm : String} : pm_dec (mL_law nm) 1558 (.iaload, 1) 1559 := ⟨(by decide +kernel : decode code 1558 = .ok (.iaload, 1)), rfl⟩
theorem dL_law_1559 {nm : String} : pm_dec (mL_law nm) 1559 (.aload_n 0, 1) 1560 := ⟨(by decide +kernel : decode code 1559 = .ok (.aload_n 0, 1)), rfl⟩
theorem dL_law_1560 {nm : String} : pm_dec (mL_law nm) 1560 (.iload_n 3, 1) 1561 := ⟨(by decide +kernel : decode code 1560 = .ok (.iload_n 3, 1)), rfl⟩
theorem dL_law_1561 {nm : String} : pm_dec (mL_law nm) 1561 (.iconst 2, 1) 1562 := ⟨(by decide +kernel : decode code 1561 = .ok (.iconst 2, 1)), rfl⟩
theorem dL_law_1562 {nm : String} : pm_dec (mL_law nm) 1562 (.iadd, 1) 1563 := ⟨(by decide +kernel : decode code 1562 = .ok (.iadd, 1)), rfl⟩
theorem dL_law_1563 {nm : String} : pm_dec (mL_law nm) 1563 (.iaload, 1) 1564 := ⟨(by decide +kernel : decode code 1563 = .ok (.iaload, 1)), rfl⟩
theorem dL_law_1564 {nm : String} : pm_dec (mL_law nm) 1564 (.invokevirtual 170, 3) 1567 := ⟨(by decide +kernel : decode code 1564 = .ok (.invokevirtual 170, 3)), rfl⟩
theorem dL_law_1567 {nm : String} : pm_dec (mL_law nm) 1567 (.pop, 1) 1568 := ⟨(by decide +kernel : decode code 1567 = .ok (.pop, 1)), rfl⟩
theorem dL_law_1568 {nm : String} : pm_dec (mL_law nm) 1568 (.goto 537, 3) 1571 := ⟨(by decide +kernel : decode code 1568 = .ok (.goto 537, 3)), rfl⟩
theorem dL_law_1571 {nm : String} : pm_dec (mL_law nm) 1571 (.aload_n 1, 1) 1572 := ⟨(by decide +kernel : decode code 1571 = .ok (.aload_n 1, 1)), rfl⟩
theorem dL_law_1572 {nm : String} : pm_dec (mL_law nm) 1572 (.aload_n 0, 1) 1573 := ⟨(by decide +kernel : decode code 1572 = .ok (.aload_n 0, 1)), rfl⟩
theorem dL_law_1573 {nm : String} : pm_dec (mL_law nm) 1573 (.iload_n 3, 1) 1574 := ⟨(by decide +kernel : decode code 1573 = .ok (.iload_n 3, 1)), rfl⟩
theorem dL_law_1574 {nm : String} : pm_dec (mL_law nm) 1574 (.iconst 1, 1) 1575 := ⟨(by decide +kernel : decode code 1574 = .ok (.iconst 1, 1)), rfl⟩
theorem dL_law_1575 {nm : String} : pm_dec (mL_law nm) 1575 (.iadd, 1) 1576 := ⟨(by decide +kernel : decode code 1575 = .ok (.iadd, 1)), rfl⟩
theorem dL_law_1576 {nm : String} : pm_dec (mL_law nm) 1576 (.iaload, 1) 1577 := ⟨(by decide +kernel : decode code 1576 = .ok (.iaload, 1)), rfl⟩
theorem dL_law_1577 {nm : String} : pm_dec (mL_law nm) 1577 (.aload_n 0, 1) 1578 := ⟨(by decide +kernel : decode code 1577 = .ok (.aload_n 0, 1)), rfl⟩
theorem dL_law_1578 {nm : String} : pm_dec (mL_law nm) 1578 (.iload_n 3, 1) 1579 := ⟨(by decide +kernel : decode code 1578 = .ok (.iload_n 3, 1)), rfl⟩
theorem dL_law_1579 {nm : String} : pm_dec (mL_law nm) 1579 (.iconst 2, 1) 1580 := ⟨(by decide +kernel : decode code 1579 = .ok (.iconst 2, 1)), rfl⟩
theorem dL_law_1580 {nm : String} : pm_dec (mL_law nm) 1580 (.iadd, 1) 1581 := ⟨(by decide +kernel : decode code 1580 = .ok (.iadd, 1)), rfl⟩
theorem dL_law_1581 {nm : String} : pm_dec (mL_law nm) 1581 (.iaload, 1) 1582 := ⟨(by decide +kernel : decode code 1581 = .ok (.iaload, 1)), rfl⟩
theorem dL_law_1582 {nm : String} : pm_dec (mL_law nm) 1582 (.invokevirtual 171, 3) 1585 := ⟨(by decide +kernel : decode code 1582 = .ok (.invokevirtual 171, 3)), rfl⟩
theorem dL_law_1585 {nm : String} : pm_dec (mL_law nm) 1585 (.pop, 1) 1586 := ⟨(by decide +kernel : decode code 1585 = .ok (.pop, 1)), rfl⟩
theorem dL_law_1586 {nm : String} : pm_dec (mL_law nm) 1586 (.aload_n 2, 1) 1587 := ⟨(by decide +kernel : decode code 1586 = .ok (.aload_n 2, 1)), rfl⟩
theorem dL_law_1587 {nm : String} : pm_dec (mL_law nm) 1587 (.aload_n 0, 1) 1588 := ⟨(by decide +kernel : decode code 1587 = .ok (.aload_n 0, 1)), rfl⟩
theorem dL_law_1588 {nm : String} : pm_dec (mL_law nm) 1588 (.iload_n 3, 1) 1589 := ⟨(by decide +kernel : decode code 1588 = .ok (.iload_n 3, 1)), rfl⟩
theorem dL_law_1589 {nm : String} : pm_dec (mL_law nm) 1589 (.iconst 1, 1) 1590 := ⟨(by decide +kernel : decode code 1589 = .ok (.iconst 1, 1)), rfl⟩
theorem dL_law_1590 {nm : String} : pm_dec (mL_law nm) 1590 (.iadd, 1) 1591 := ⟨(by decide +kernel : decode code 1590 = .ok (.iadd, 1)), rfl⟩
theorem dL_law_1591 {nm : String} : pm_dec (mL_law nm) 1591 (.iaload, 1) 1592 := ⟨(by decide +kernel : decode code 1591 = .ok (.iaload, 1)), rfl⟩
theorem dL_law_1592 {nm : String} : pm_dec (mL_law nm) 1592 (.aload_n 0, 1) 1593 := ⟨(by decide +kernel : decode code 1592 = .ok (.aload_n 0, 1)), rfl⟩
theorem dL_law_1593 {nm : String} : pm_dec (mL_law nm) 1593 (.iload_n 3, 1) 1594 := ⟨(by decide +kernel : decode code 1593 = .ok (.iload_n 3, 1)), rfl⟩
theorem dL_law_1594 {nm : String} : pm_dec (mL_law nm) 1594 (.iconst 2, 1) 1595 := ⟨(by decide +kernel : decode code 1594 = .ok (.iconst 2, 1)), rfl⟩
theorem dL_law_1595 {nm : String} : pm_dec (mL_law nm) 1595 (.iadd, 1) 1596 := ⟨(by decide +kernel : decode code 1595 = .ok (.iadd, 1)), rfl⟩
theorem dL_law_1596 {nm : String} : pm_dec (mL_law nm) 1596 (.iaload, 1) 1597 := ⟨(by decide +kernel : decode code 1596 = .ok (.iaload, 1)), rfl⟩
theorem dL_law_1597 {nm : String} : pm_dec (mL_law nm) 1597 (.invokevirtual 174, 3) 1600 := ⟨(by decide +kernel : decode code 1597 = .ok (.invokevirtual 174, 3)), rfl⟩
theorem dL_law_1600 {nm : String} : pm_dec (mL_law nm) 1600 (.pop, 1) 1601 := ⟨(by decide +kernel : decode code 1600 = .ok (.pop, 1)), rfl⟩
theorem dL_law_1601 {nm : String} : pm_dec (mL_law nm) 1601 (.goto 504, 3) 1604 := ⟨(by decide +kernel : decode code 1601 = .ok (.goto 504, 3)), rfl⟩
theorem dL_law_1604 {nm : String} : pm_dec (mL_law nm) 1604 (.aload_n 1, 1) 1605 := ⟨(by decide +kernel : decode code 1604 = .ok (.aload_n 1, 1)), rfl⟩
theorem dL_law_1605 {nm : String} : pm_dec (mL_law nm) 1605 (.aload_n 0, 1) 1606 := ⟨(by decide +kernel : decode code 1605 = .ok (.aload_n 0, 1)), rfl⟩
theorem dL_law_1606 {nm : String} : pm_dec (mL_law nm) 1606 (.iload_n 3, 1) 1607 := ⟨(by decide +kernel : decode code 1606 = .ok (.iload_n 3, 1)), rfl⟩
theorem dL_law_1607 {nm : String} : pm_dec (mL_law nm) 1607 (.iconst 1, 1) 1608 := ⟨(by decide +kernel : decode code 1607 = .ok (.iconst 1, 1)), rfl⟩
theorem dL_law_1608 {nm : String} : pm_dec (mL_law nm) 1608 (.iadd, 1) 1609 := ⟨(by decide +kernel : decode code 1608 = .ok (.iadd, 1)), rfl⟩
theorem dL_law_1609 {nm : String} : pm_dec (mL_law nm) 1609 (.iaload, 1) 1610 := ⟨(by decide +kernel : decode code 1609 = .ok (.iaload, 1)), rfl⟩
theorem dL_law_1610 {nm : String} : pm_dec (mL_law nm) 1610 (.aload_n 0, 1) 1611 := ⟨(by decide +kernel : decode code 1610 = .ok (.aload_n 0, 1)), rfl⟩
theorem dL_law_1611 {nm : String} : pm_dec (mL_law nm) 1611 (.iload_n 3, 1) 1612 := ⟨(by decide +kernel : decode code 1611 = .ok (.iload_n 3, 1)), rfl⟩
theorem dL_law_1612 {nm : String} : pm_dec (mL_law nm) 1612 (.iconst 2, 1) 1613 := ⟨(by decide +kernel : decode code 1612 = .ok (.iconst 2, 1)), rfl⟩
theorem dL_law_1613 {nm : String} : pm_dec (mL_law nm) 1613 (.iadd, 1) 1614 := ⟨(by decide +kernel : decode code 1613 = .ok (.iadd, 1)), rfl⟩
theorem dL_law_1614 {nm : String} : pm_dec (mL_law nm) 1614 (.iaload, 1) 1615 := ⟨(by decide +kernel : decode code 1614 = .ok (.iaload, 1)), rfl⟩
theorem dL_law_1615 {nm : String} : pm_dec (mL_law nm) 1615 (.invokevirtual 175, 3) 1618 := ⟨(by decide +kernel : decode code 1615 = .ok (.invokevirtual 175, 3)), rfl⟩
theorem dL_law_1618 {nm : String} : pm_dec (mL_law nm) 1618 (.pop, 1) 1619 := ⟨(by decide +kernel : decode code 1618 = .ok (.pop, 1)), rfl⟩
theorem dL_law_1619 {nm : String} : pm_dec (mL_law nm) 1619 (.aload_n 2, 1) 1620 := ⟨(by decide +kernel : decode code 1619 = .ok (.aload_n 2, 1)), rfl⟩
theorem dL_law_1620 {nm : String} : pm_dec (mL_law nm) 1620 (.aload_n 0, 1) 1621 := ⟨(by decide +kernel : decode code 1620 = .ok (.aload_n 0, 1)), rfl⟩
theorem dL_law_1621 {nm : String} : pm_dec (mL_law nm) 1621 (.iload_n 3, 1) 1622 := ⟨(by decide +kernel : decode code 1621 = .ok (.iload_n 3, 1)), rfl⟩
theorem dL_law_1622 {nm : String} : pm_dec (mL_law nm) 1622 (.iconst 1, 1) 1623 := ⟨(by decide +kernel : decode code 1622 = .ok (.iconst 1, 1)), rfl⟩
theorem dL_law_1623 {nm : String} : pm_dec (mL_law nm) 1623 (.iadd, 1) 1624 := ⟨(by decide +kernel : decode code 1623 = .ok (.iadd, 1)), rfl⟩
theorem dL_law_1624 {nm : String} : pm_dec (mL_law nm) 1624 (.iaload, 1) 1625 := ⟨(by decide +kernel : decode code 1624 = .ok (.iaload, 1)), rfl⟩
theorem dL_law_1625 {nm : String} : pm_dec (mL_law nm) 1625 (.aload_n 0, 1) 1626 := ⟨(by decide +kernel : decode code 1625 = .ok (.aload_n 0, 1)), rfl⟩
theorem dL_law_1626 {nm : String} : pm_dec (mL_law nm) 1626 (.iload_n 3, 1) 1627 := ⟨(by decide +kernel : decode code 1626 = .ok (.iload_n 3, 1)), rfl⟩
theorem dL_law_1627 {nm : String} : pm_dec (mL_law nm) 1627 (.iconst 2, 1) 1628 := ⟨(by decide +kernel : decode code 1627 = .ok (.iconst 2, 1)), rfl⟩
theorem dL_law_1628 {nm : String} : pm_dec (mL_law nm) 1628 (.iadd, 1) 1629 := ⟨(by decide +kernel : decode code 1628 = .ok (.iadd, 1)), rfl⟩
theorem dL_law_1629 {nm : String} : pm_dec (mL_law nm) 1629 (.iaload, 1) 1630 := ⟨(by decide +kernel : decode code 1629 = .ok (.iaload, 1)), rfl⟩
theorem dL_law_1630 {nm : String} : pm_dec (mL_law nm) 1630 (.invokevirtual 178, 3) 1633 := ⟨(by decide +kernel : decode code 1630 = .ok (.invokevirtual 178, 3)), rfl⟩
theorem dL_law_1633 {nm : String} : pm_dec (mL_law nm) 1633 (.pop, 1) 1634 := ⟨(by decide +kernel : decode code 1633 = .ok (.pop, 1)), rfl⟩
theorem dL_law_1634 {nm : String} : pm_dec (mL_law nm) 1634 (.goto 471, 3) 1637 := ⟨(by decide +kernel : decode code 1634 = .ok (.goto 471, 3)), rfl⟩
theorem dL_law_1637 {nm : String} : pm_dec (mL_law nm) 1637 (.aload_n 1, 1) 1638 := ⟨(by decide +kernel : decode code 1637 = .ok (.aload_n 1, 1)), rfl⟩
theorem dL_law_1638 {nm : String} : pm_dec (mL_law nm) 1638 (.aload_n 0, 1) 1639 := ⟨(by decide +kernel : decode code 1638 = .ok (.aload_n 0, 1)), rfl⟩
theorem dL_law_1639 {nm : String} : pm_dec (mL_law nm) 1639 (.iload_n 3, 1) 1640 := ⟨(by decide +kernel : decode code 1639 = .ok (.iload_n 3, 1)), rfl⟩
theorem dL_law_1640 {nm : String} : pm_dec (mL_law nm) 1640 (.iconst 1, 1) 1641 := ⟨(by decide +kernel : decode code 1640 = .ok (.iconst 1, 1)), rfl⟩
theorem dL_law_1641 {nm : String} : pm_dec (mL_law nm) 1641 (.iadd, 1) 1642 := ⟨(by decide +kernel : decode code 1641 = .ok (.iadd, 1)), rfl⟩
theorem dL_law_1642 {nm : String} : pm_dec (mL_law nm) 1642 (.iaload, 1) 1643 := ⟨(by decide +kernel : decode code 1642 = .ok (.iaload, 1)), rfl⟩
theorem dL_law_1643 {nm : String} : pm_dec (mL_law nm) 1643 (.aload_n 0, 1) 1644 := ⟨(by decide +kernel : decode code 1643 = .ok (.aload_n 0, 1)), rfl⟩
theorem dL_law_1644 {nm : String} : pm_dec (mL_law nm) 1644 (.iload_n 3, 1) 1645 := ⟨(by decide +kernel : decode code 1644 = .ok (.iload_n 3, 1)), rfl⟩
theorem dL_law_1645 {nm : String} : pm_dec (mL_law nm) 1645 (.iconst 2, 1) 1646 := ⟨(by decide +kernel : decode code 1645 = .ok (.iconst 2, 1)), rfl⟩
theorem dL_law_1646 {nm : String} : pm_dec (mL_law nm) 1646 (.iadd, 1) 1647 := ⟨(by decide +kernel : decode code 1646 = .ok (.iadd, 1)), rfl⟩
theorem dL_law_1647 {nm : String} : pm_dec (mL_law nm) 1647 (.iaload, 1) 1648 := ⟨(by decide +kernel : decode code 1647 = .ok (.iaload, 1)), rfl⟩
theorem dL_law_1648 {nm : String} : pm_dec (mL_law nm) 1648 (.aload_n 0, 1) 1649 := ⟨(by decide +kernel : decode code 1648 = .ok (.aload_n 0, 1)), rfl⟩
theorem dL_law_1649 {nm : String} : pm_dec (mL_law nm) 1649 (.iload_n 3, 1) 1650 := ⟨(by decide +kernel : decode code 1649 = .ok (.iload_n 3, 1)), rfl⟩
theorem dL_law_1650 {nm : String} : pm_dec (mL_law nm) 1650 (.iconst 3, 1) 1651 := ⟨(by decide +kernel : decode code 1650 = .ok (.iconst 3, 1)), rfl⟩
theorem dL_law_1651 {nm : String} : pm_dec (mL_law nm) 1651 (.iadd, 1) 1652 := ⟨(by decide +kernel : decode code 1651 = .ok (.iadd, 1)), rfl⟩
theorem dL_law_1652 {nm : String} : pm_dec (mL_law nm) 1652 (.iaload, 1) 1653 := ⟨(by decide +kernel : decode code 1652 = .ok (.iaload, 1)), rfl⟩
theorem dL_law_1653 {nm : String} : pm_dec (mL_law nm) 1653 (.aload_n 0, 1) 1654 := ⟨(by decide +kernel : decode code 1653 = .ok (.aload_n 0, 1)), rfl⟩
theorem dL_law_1654 {nm : String} : pm_dec (mL_law nm) 1654 (.iload_n 3, 1) 1655 := ⟨(by decide +kernel : decode code 1654 = .ok (.iload_n 3, 1)), rfl⟩
theorem dL_law_1655 {nm : String} : pm_dec (mL_law nm) 1655 (.iconst 4, 1) 1656 := ⟨(by decide +kernel : decode code 1655 = .ok (.iconst 4, 1)), rfl⟩
theorem dL_law_1656 {nm : String} : pm_dec (mL_law nm) 1656 (.iadd, 1) 1657 := ⟨(by decide +kernel : decode code 1656 = .ok (.iadd, 1)), rfl⟩
theorem dL_law_1657 {nm : String} : pm_dec (mL_law nm) 1657 (.iaload, 1) 1658 := ⟨(by decide +kernel : decode code 1657 = .ok (.iaload, 1)), rfl⟩
theorem dL_law_1658 {nm : String} : pm_dec (mL_law nm) 1658 (.invokevirtual 179, 3) 1661 := ⟨(by decide +kernel : decode code 1658 = .ok (.invokevirtual 179, 3)), rfl⟩
theorem dL_law_1661 {nm : String} : pm_dec (mL_law nm) 1661 (.pop, 1) 1662 := ⟨(by decide +kernel : decode code 1661 = .ok (.pop, 1)), rfl⟩
theorem dL_law_1662 {nm : String} : pm_dec (mL_law nm) 1662 (.aload_n 2, 1) 1663 := ⟨(by decide +kernel : decode code 1662 = .ok (.aload_n 2, 1)), rfl⟩
theorem dL_law_1663 {nm : String} : pm_dec (mL_law nm) 1663 (.aload_n 0, 1) 1664 := ⟨(by decide +kernel : decode code 1663 = .ok (.aload_n 0, 1)), rfl⟩
theorem dL_law_1664 {nm : String} : pm_dec (mL_law nm) 1664 (.iload_n 3, 1) 1665 := ⟨(by decide +kernel : decode code 1664 = .ok (.iload_n 3, 1)), rfl⟩
theorem dL_law_1665 {nm : String} : pm_dec (mL_law nm) 1665 (.iconst 1, 1) 1666 := ⟨(by decide +kernel : decode code 1665 = .ok (.iconst 1, 1)), rfl⟩
theorem dL_law_1666 {nm : String} : pm_dec (mL_law nm) 1666 (.iadd, 1) 1667 := ⟨(by decide +kernel : decode code 1666 = .ok (.iadd, 1)), rfl⟩
theorem dL_law_1667 {nm : String} : pm_dec (mL_law nm) 1667 (.iaload, 1) 1668 := ⟨(by decide +kernel : decode code 1667 = .ok (.iaload, 1)), rfl⟩
theorem dL_law_1668 {nm : String} : pm_dec (mL_law nm) 1668 (.aload_n 0, 1) 1669 := ⟨(by decide +kernel : decode code 1668 = .ok (.aload_n 0, 1)), rfl⟩
theorem dL_law_1669 {nm : String} : pm_dec (mL_law nm) 1669 (.iload_n 3, 1) 1670 := ⟨(by decide +kernel : decode code 1669 = .ok (.iload_n 3, 1)), rfl⟩
theorem dL_law_1670 {nm : String} : pm_dec (mL_law nm) 1670 (.iconst 2, 1) 1671 := ⟨(by decide +kernel : decode code 1670 = .ok (.iconst 2, 1)), rfl⟩
theorem dL_law_1671 {nm : String} : pm_dec (mL_law nm) 1671 (.iadd, 1) 1672 := ⟨(by decide +kernel : decode code 1671 = .ok (.iadd, 1)), rfl⟩
theorem dL_law_1672 {nm : String} : pm_dec (mL_law nm) 1672 (.iaload, 1) 1673 := ⟨(by decide +kernel : decode code 1672 = .ok (.iaload, 1)), rfl⟩
theorem dL_law_1673 {nm : String} : pm_dec (mL_law nm) 1673 (.aload_n 0, 1) 1674 := ⟨(by decide +kernel : decode code 1673 = .ok (.aload_n 0, 1)), rfl⟩
theorem dL_law_1674 {nm : String} : pm_dec (mL_law nm) 1674 (.iload_n 3, 1) 1675 := ⟨(by decide +kernel : decode code 1674 = .ok (.iload_n 3, 1)), rfl⟩
theorem dL_law_1675 {nm : String} : pm_dec (mL_law nm) 1675 (.iconst 3, 1) 1676 := ⟨(by decide +kernel : decode code 1675 = .ok (.iconst 3, 1)), rfl⟩
theorem dL_law_1676 {nm : String} : pm_dec (mL_law nm) 1676 (.iadd, 1) 1677 := ⟨(by decide +kernel : decode code 1676 = .ok (.iadd, 1)), rfl⟩
theorem dL_law_1677 {nm : String} : pm_dec (mL_law nm) 1677 (.iaload, 1) 1678 := ⟨(by decide +kernel : decode code 1677 = .ok (.iaload, 1)), rfl⟩
theorem dL_law_1678 {nm : String} : pm_dec (mL_law nm) 1678 (.aload_n 0, 1) 1679 := ⟨(by decide +kernel : decode code 1678 = .ok (.aload_n 0, 1)), rfl⟩
theorem dL_law_1679 {nm : String} : pm_dec (mL_law nm) 1679 (.iload_n 3, 1) 1680 := ⟨(by decide +kernel : decode code 1679 = .ok (.iload_n 3, 1)), rfl⟩
theorem dL_law_1680 {nm : String} : pm_dec (mL_law nm) 1680 (.iconst 4, 1) 1681 := ⟨(by decide +kernel : decode code 1680 = .ok (.iconst 4, 1)), rfl⟩
theorem dL_law_1681 {nm : String} : pm_dec (mL_law nm) 1681 (.iadd, 1) 1682 := ⟨(by decide +kernel : decode code 1681 = .ok (.iadd, 1)), rfl⟩
theorem dL_law_1682 {nm : String} : pm_dec (mL_law nm) 1682 (.iaload, 1) 1683 := ⟨(by decide +kernel : decode code 1682 = .ok (.iaload, 1)), rfl⟩
theorem dL_law_1683 {nm : String} : pm_dec (mL_law nm) 1683 (.invokevirtual 182, 3) 1686 := ⟨(by decide +kernel : decode code 1683 = .ok (.invokevirtual 182, 3)), rfl⟩
theorem dL_law_1686 {nm : String} : pm_dec (mL_law nm) 1686 (.pop, 1) 1687 := ⟨(by decide +kernel : decode code 1686 = .ok (.pop, 1)), rfl⟩
theorem dL_law_1687 {nm : String} : pm_dec (mL_law nm) 1687 (.goto 418, 3) 1690 := ⟨(by decide +kernel : decode code 1687 = .ok (.goto 418, 3)), rfl⟩
theorem dL_law_1690 {nm : String} : pm_dec (mL_law nm) 1690 (.aload_n 1, 1) 1691 := ⟨(by decide +kernel : decode code 1690 = .ok (.aload_n 1, 1)), rfl⟩
theorem dL_law_1691 {nm : String} : pm_dec (mL_law nm) 1691 (.aload_n 0, 1) 1692 := ⟨(by decide +kernel : decode code 1691 = .ok (.aload_n 0, 1)), rfl⟩
theorem dL_law_1692 {nm : String} : pm_dec (mL_law nm) 1692 (.iload_n 3, 1) 1693 := ⟨(by decide +kernel : decode code 1692 = .ok (.iload_n 3, 1)), rfl⟩
theorem dL_law_1693 {nm : String} : pm_dec (mL_law nm) 1693 (.iconst 1, 1) 1694 := ⟨(by decide +kernel : decode code 1693 = .ok (.iconst 1, 1)), rfl⟩
theorem dL_law_1694 {nm : String} : pm_dec (mL_law nm) 1694 (.iadd, 1) 1695 := ⟨(by decide +kernel : decode code 1694 = .ok (.iadd, 1)), rfl⟩
theorem dL_law_1695 {nm : String} : pm_dec (mL_law nm) 1695 (.iaload, 1) 1696 := ⟨(by decide +kernel : decode code 1695 = .ok (.iaload, 1)), rfl⟩
theorem dL_law_1696 {nm : String} : pm_dec (mL_law nm) 1696 (.invokevirtual 183, 3) 1699 := ⟨(by decide +kernel : decode code 1696 = .ok (.invokevirtual 183, 3)), rfl⟩
theorem dL_law_1699 {nm : String} : pm_dec (mL_law nm) 1699 (.pop, 1) 1700 := ⟨(by decide +kernel : decode code 1699 = .ok (.pop, 1)), rfl⟩
theorem dL_law_1700 {nm : String} : pm_dec (mL_law nm) 1700 (.aload_n 2, 1) 1701 := ⟨(by decide +kernel : decode code 1700 = .ok (.aload_n 2, 1)), rfl⟩
theorem dL_law_1701 {nm : String} : pm_dec (mL_law nm) 1701 (.aload_n 0, 1) 1702 := ⟨(by decide +kernel : decode code 1701 = .ok (.aload_n 0, 1)), rfl⟩
