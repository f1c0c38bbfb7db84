theorem dL_law_1652 {nm : String} : pm_dec (mL_law nm) 1652 (.iaload, 1) 1653 := ⟨(by decide +kernel : decode code 1652 = .ok (.iaload, 1)), rfl⟩
theorem dL_law_1653 {nm : String} : pm_dec (mL_law nm) 1653 (.aload_n 0, 1) 1654 := ⟨(by decide +kernel : decode code 1653 = .ok (.aload_n 0, 1)), rfl⟩
theorem dL_law_1654 {nm : String} : pm_dec (mL_law nm) 1654 (.iload_n 3, 1) 1655 := ⟨(by decide +kernel : decode code 1654 = .ok (.iload_n 3, 1)), rfl⟩
theorem dL_law_1655 {nm : String} : pm_dec (mL_law nm) 1655 (.iconst 4, 1) 1656 := ⟨(by decide +kernel : decode code 1655 = .ok (.iconst 4, 1)), rfl⟩
theorem dL_law_1656 {nm : String} : pm_dec (mL_law nm) 1656 (.iadd, 1) 1657 := ⟨(by decide +kernel : decode code 1656 = .ok (.iadd, 1)), rfl⟩
theorem dL_law_1657 {nm : String} : pm_dec (mL_law nm) 1657 (.iaload, 1) 1658 := ⟨(by decide +kernel : decode code 1657 = .ok (.iaload, 1)), rfl⟩
theorem dL_law_1658 {nm : String} : pm_dec (mL_law nm) 1658 (.invokevirtual 179, 3) 1661 := ⟨(by decide +kernel : decode code 1658 = .ok (.invokevirtual 179, 3)), rfl⟩
theorem dL_law_1661 {nm : String} : pm_dec (mL_law nm) 1661 (.aload_n 2, 1) 1662 := ⟨(by decide +kernel : decode code 1661 = .ok (.aload_n 2, 1)), rfl⟩
theorem dL_law_1662 {nm : String} : pm_dec (mL_law nm) 1662 (.aload_n 0, 1) 1663 := ⟨(by decide +kernel : decode code 1662 = .ok (.aload_n 0, 1)), rfl⟩
theorem dL_law_1663 {nm : String} : pm_dec (mL_law nm) 1663 (.iload_n 3, 1) 1664 := ⟨(by decide +kernel : decode code 1663 = .ok (.iload_n 3, 1)), rfl⟩
theorem dL_law_1664 {nm : String} : pm_dec (mL_law nm) 1664 (.iconst 1, 1) 1665 := ⟨(by decide +kernel : decode code 1664 = .ok (.iconst 1, 1)), rfl⟩
theorem dL_law_1665 {nm : String} : pm_dec (mL_law nm) 1665 (.iadd, 1) 1666 := ⟨(by decide +kernel : decode code 1665 = .ok (.iadd, 1)), rfl⟩
theorem dL_law_1666 {nm : String} : pm_dec (mL_law nm) 1666 (.iaload, 1) 1667 := ⟨(by decide +kernel : decode code 1666 = .ok (.iaload, 1)), rfl⟩
theorem dL_law_1667 {nm : String} : pm_dec (mL_law nm) 1667 (.aload_n 0, 1) 1668 := ⟨(by decide +kernel : decode code 1667 = .ok (.aload_n 0, 1)), rfl⟩
theorem dL_law_1668 {nm : String} : pm_dec (mL_law nm) 1668 (.iload_n 3, 1) 1669 := ⟨(by decide +kernel : decode code 1668 = .ok (.iload_n 3, 1)), rfl⟩
theorem dL_law_1669 {nm : String} : pm_dec (mL_law nm) 1669 (.iconst 2, 1) 1670 := ⟨(by decide +kernel : decode code 1669 = .ok (.iconst 2, 1)), rfl⟩
theorem dL_law_1670 {nm : String} : pm_dec (mL_law nm) 1670 (.iadd, 1) 1671 := ⟨(by decide +kernel : decode code 1670 = .ok (.iadd, 1)), rfl⟩
theorem dL_law_1671 {nm : String} : pm_dec (mL_law nm) 1671 (.iaload, 1) 1672 := ⟨(by decide +kernel : decode code 1671 = .ok (.iaload, 1)), rfl⟩
theorem dL_law_1672 {nm : String} : pm_dec (mL_law nm) 1672 (.aload_n 0, 1) 1673 := ⟨(by decide +kernel : decode code 1672 = .ok (.aload_n 0, 1)), rfl⟩
theorem dL_law_1673 {nm : String} : pm_dec (mL_law nm) 1673 (.iload_n 3, 1) 1674 := ⟨(by decide +kernel : decode code 1673 = .ok (.iload_n 3, 1)), rfl⟩
theorem dL_law_1674 {nm : String} : pm_dec (mL_law nm) 1674 (.iconst 3, 1) 1675 := ⟨(by decide +kernel : decode code 1674 = .ok (.iconst 3, 1)), rfl⟩
theorem dL_law_1675 {nm : String} : pm_dec (mL_law nm) 1675 (.iadd, 1) 1676 := ⟨(by decide +kernel : decode code 1675 = .ok (.iadd, 1)), rfl⟩
theorem dL_law_1676 {nm : String} : pm_dec (mL_law nm) 1676 (.iaload, 1) 1677 := ⟨(by decide +kernel : decode code 1676 = .ok (.iaload, 1)), rfl⟩
theorem dL_law_1677 {nm : String} : pm_dec (mL_law nm) 1677 (.aload_n 0, 1) 1678 := ⟨(by decide +kernel : decode code 1677 = .ok (.aload_n 0, 1)), rfl⟩
theorem dL_law_1678 {nm : String} : pm_dec (mL_law nm) 1678 (.iload_n 3, 1) 1679 := ⟨(by decide +kernel : decode code 1678 = .ok (.iload_n 3, 1)), rfl⟩
theorem dL_law_1679 {nm : String} : pm_dec (mL_law nm) 1679 (.iconst 4, 1) 1680 := ⟨(by decide +kernel : decode code 1679 = .ok (.iconst 4, 1)), rfl⟩
theorem dL_law_1680 {nm : String} : pm_dec (mL_law nm) 1680 (.iadd, 1) 1681 := ⟨(by decide +kernel : decode code 1680 = .ok (.iadd, 1)), rfl⟩
theorem dL_law_1681 {nm : String} : pm_dec (mL_law nm) 1681 (.iaload, 1) 1682 := ⟨(by decide +kernel : decode code 1681 = .ok (.iaload, 1)), rfl⟩
theorem dL_law_1682 {nm : String} : pm_dec (mL_law nm) 1682 (.invokevirtual 182, 3) 1685 := ⟨(by decide +kernel : decode code 1682 = .ok (.invokevirtual 182, 3)), rfl⟩
theorem dL_law_1685 {nm : String} : pm_dec (mL_law nm) 1685 (.if_icmp .eq 420, 3) 1688 := ⟨(by decide +kernel : decode code 1685 = .ok (.if_icmp .eq 420, 3)), rfl⟩
theorem dL_law_1690 {nm : String} : pm_dec (mL_law nm) 1690 (.aload_n 1, 1) 1691 := ⟨(by decide +kernel : decode code 1690 = .ok (.aload_n 1, 1)), rfl⟩
theorem dL_law_1691 {nm : String} : pm_dec (mL_law nm) 1691 (.aload_n 0, 1) 1692 := ⟨(by decide +kernel : decode code 1691 = .ok (.aload_n 0, 1)), rfl⟩
theorem dL_law_1692 {nm : String} : pm_dec (mL_law nm) 1692 (.iload_n 3, 1) 1693 := ⟨(by decide +kernel : decode code 1692 = .ok (.iload_n 3, 1)), rfl⟩
theorem dL_law_1693 {nm : String} : pm_dec (mL_law nm) 1693 (.iconst 1, 1) 1694 := ⟨(by decide +kernel : decode code 1693 = .ok (.iconst 1, 1)), rfl⟩
theorem dL_law_1694 {nm : String} : pm_dec (mL_law nm) 1694 (.iadd, 1) 1695 := ⟨(by decide +kernel : decode code 1694 = .ok (.iadd, 1)), rfl⟩
theorem dL_law_1695 {nm : String} : pm_dec (mL_law nm) 1695 (.iaload, 1) 1696 := ⟨(by decide +kernel : decode code 1695 = .ok (.iaload, 1)), rfl⟩
theorem dL_law_1696 {nm : String} : pm_dec (mL_law nm) 1696 (.invokevirtual 183, 3) 1699 := ⟨(by decide +kernel : decode code 1696 = .ok (.invokevirtual 183, 3)), rfl⟩
theorem dL_law_1699 {nm : String} : pm_dec (mL_law nm) 1699 (.aload_n 2, 1) 1700 := ⟨(by decide +kernel : decode code 1699 = .ok (.aload_n 2, 1)), rfl⟩
theorem dL_law_1700 {nm : String} : pm_dec (mL_law nm) 1700 (.aload_n 0, 1) 1701 := ⟨(by decide +kernel : decode code 1700 = .ok (.aload_n 0, 1)), rfl⟩
theorem dL_law_1701 {nm : String} : pm_dec (mL_law nm) 1701 (.iload_n 3, 1) 1702 := ⟨(by decide +kernel : decode code 1701 = .ok (.iload_n 3, 1)), rfl⟩
theorem dL_law_1702 {nm : String} : pm_dec (mL_law nm) 1702 (.iconst 1, 1) 1703 := ⟨(by decide +kernel : decode code 1702 = .ok (.iconst 1, 1)), rfl⟩
theorem dL_law_1703 {nm : String} : pm_dec (mL_law nm) 1703 (.iadd, 1) 1704 := ⟨(by decide +kernel : decode code 1703 = .ok (.iadd, 1)), rfl⟩
theorem dL_law_1704 {nm : String} : pm_dec (mL_law nm) 1704 (.iaload, 1) 1705 := ⟨(by decide +kernel : decode code 1704 = .ok (.iaload, 1)), rfl⟩
theorem dL_law_1705 {nm : String} : pm_dec (mL_law nm) 1705 (.invokevirtual 186, 3) 1708 := ⟨(by decide +kernel : decode code 1705 = .ok (.invokevirtual 186, 3)), rfl⟩
theorem dL_law_1708 {nm : String} : pm_dec (mL_law nm) 1708 (.if_icmp .eq 397, 3) 1711 := ⟨(by decide +kernel : decode code 1708 = .ok (.if_icmp .eq 397, 3)), rfl⟩
theorem dL_law_1713 {nm : String} : pm_dec (mL_law nm) 1713 (.aload_n 1, 1) 1714 := ⟨(by decide +kernel : decode code 1713 = .ok (.aload_n 1, 1)), rfl⟩
theorem dL_law_1714 {nm : String} : pm_dec (mL_law nm) 1714 (.invokevirtual 187, 3) 1717 := ⟨(by decide +kernel : decode code 1714 = .ok (.invokevirtual 187, 3)), rfl⟩
theorem dL_law_1717 {nm : String} : pm_dec (mL_law nm) 1717 (.aload_n 2, 1) 1718 := ⟨(by decide +kernel : decode code 1717 = .ok (.aload_n 2, 1)), rfl⟩
theorem dL_law_1718 {nm : String} : pm_dec (mL_law nm) 1718 (.invokevirtual 190, 3) 1721 := ⟨(by decide +kernel : decode code 1718 = .ok (.invokevirtual 190, 3)), rfl⟩
theorem dL_law_1721 {nm : String} : pm_dec (mL_law nm) 1721 (.if_icmp .eq 384, 3) 1724 := ⟨(by decide +kernel : decode code 1721 = .ok (.if_icmp .eq 384, 3)), rfl⟩
theorem dL_law_1726 {nm : String} : pm_dec (mL_law nm) 1726 (.aload_n 1, 1) 1727 := ⟨(by decide +kernel : decode code 1726 = .ok (.aload_n 1, 1)), rfl⟩
theorem dL_law_1727 {nm : String} : pm_dec (mL_law nm) 1727 (.aload_n 0, 1) 1728 := ⟨(by decide +kernel : decode code 1727 = .ok (.aload_n 0, 1)), rfl⟩
theorem dL_law_1728 {nm : String} : pm_dec (mL_law nm) 1728 (.iload_n 3, 1) 1729 := ⟨(by decide +kernel : decode code 1728 = .ok (.iload_n 3, 1)), rfl⟩
theorem dL_law_1729 {nm : String} : pm_dec (mL_law nm) 1729 (.iconst 1, 1) 1730 := ⟨(by decide +kernel : decode code 1729 = .ok (.iconst 1, 1)), rfl⟩
theorem dL_law_1730 {nm : String} : pm_dec (mL_law nm) 1730 (.iadd, 1) 1731 := ⟨(by decide +kernel : decode code 1730 = .ok (.iadd, 1)), rfl⟩
theorem dL_law_1731 {nm : String} : pm_dec (mL_law nm) 1731 (.iaload, 1) 1732 := ⟨(by decide +kernel : decode code 1731 = .ok (.iaload, 1)), rfl⟩
theorem dL_law_1732 {nm : String} : pm_dec (mL_law nm) 1732 (.invokevirtual 191, 3) 1735 := ⟨(by decide +kernel : decode code 1732 = .ok (.invokevirtual 191, 3)), rfl⟩
theorem dL_law_1735 {nm : String} : pm_dec (mL_law nm) 1735 (.aload_n 2, 1) 1736 := ⟨(by decide +kernel : decode code 1735 = .ok (.aload_n 2, 1)), rfl⟩
theorem dL_law_1736 {nm : String} : pm_dec (mL_law nm) 1736 (.aload_n 0, 1) 1737 := ⟨(by decide +kernel : decode code 1736 = .ok (.aload_n 0, 1)), rfl⟩
theorem dL_law_1737 {nm : String} : pm_dec (mL_law nm) 1737 (.iload_n 3, 1) 1738 := ⟨(by decide +kernel : decode code 1737 = .ok (.iload_n 3, 1)), rfl⟩
theorem dL_law_1738 {nm : String} : pm_dec (mL_law nm) 1738 (.iconst 1, 1) 1739 := ⟨(by decide +kernel : decode code 1738 = .ok (.iconst 1, 1)), rfl⟩
theorem dL_law_1739 {nm : String} : pm_dec (mL_law nm) 1739 (.iadd, 1) 1740 := ⟨(by decide +kernel : decode code 1739 = .ok (.iadd, 1)), rfl⟩
theorem dL_law_1740 {nm : String} : pm_dec (mL_law nm) 1740 (.iaload, 1) 1741 := ⟨(by decide +kernel : decode code 1740 = .ok (.iaload, 1)), rfl⟩
theorem dL_law_1741 {nm : String} : pm_dec (mL_law nm) 1741 (.invokevirtual 194, 3) 1744 := ⟨(by decide +kernel : decode code 1741 = .ok (.invokevirtual 194, 3)), rfl⟩
theorem dL_law_1744 {nm : String} : pm_dec (mL_law nm) 1744 (.if_icmp .eq 361, 3) 1747 := ⟨(by decide +kernel : decode code 1744 = .ok (.if_icmp .eq 361, 3)), rfl⟩
theorem dL_law_1749 {nm : String} : pm_dec (mL_law nm) 1749 (.aload_n 1, 1) 1750 := ⟨(by decide +kernel : decode code 1749 = .ok (.aload_n 1, 1)), rfl⟩
theorem dL_law_1750 {nm : String} : pm_dec (mL_law nm) 1750 (.aload_n 0, 1) 1751 := ⟨(by decide +kernel : decode code 1750 = .ok (.aload_n 0, 1)), rfl⟩
theorem dL_law_1751 {nm : String} : pm_dec (mL_law nm) 1751 (.iload_n 3, 1) 1752 := ⟨(by decide +kernel : decode code 1751 = .ok (.iload_n 3, 1)), rfl⟩
theorem dL_law_1752 {nm : String} : pm_dec (mL_law nm) 1752 (.iconst 1, 1) 1753 := ⟨(by decide +kernel : decode code 1752 = .ok (.iconst 1, 1)), rfl⟩
theorem dL_law_1753 {nm : String} : pm_dec (mL_law nm) 1753 (.iadd, 1) 1754 := ⟨(by decide +kernel : decode code 1753 = .ok (.iadd, 1)), rfl⟩
theorem dL_law_1754 {nm : String} : pm_dec (mL_law nm) 1754 (.iaload, 1) 1755 := ⟨(by decide +kernel : decode code 1754 = .ok (.iaload, 1)), rfl⟩
theorem dL_law_1755 {nm : String} : pm_dec (mL_law nm) 1755 (.aload_n 0, 1) 1756 := ⟨(by decide +kernel : decode code 1755 = .ok (.aload_n 0, 1)), rfl⟩
theorem dL_law_1756 {nm : String} : pm_dec (mL_law nm) 1756 (.iload_n 3, 1) 1757 := ⟨(by decide +kernel : decode code 1756 = .ok (.iload_n 3, 1)), rfl⟩
theorem dL_law_1757 {nm : String} : pm_dec (mL_law nm) 1757 (.iconst 2, 1) 1758 := ⟨(by decide +kernel : decode code 1757 = .ok (.iconst 2, 1)), rfl⟩
theorem dL_law_1758 {nm : String} : pm_dec (mL_law nm) 1758 (.iadd, 1) 1759 := ⟨(by decide +kernel : decode code 1758 = .ok (.iadd, 1)), rfl⟩
theorem dL_law_1759 {nm : String} : pm_dec (mL_law nm) 1759 (.iaload, 1) 1760 := ⟨(by decide +kernel : decode code 1759 = .ok (.iaload, 1)), rfl⟩
theorem dL_law_1760 {nm : String} : pm_dec (mL_law nm) 1760 (.invokevirtual 195, 3) 1763 := ⟨(by decide +kernel : decode code 1760 = .ok (.invokevirtual 195, 3)), rfl⟩
theorem dL_law_1763 {nm : String} : pm_dec (mL_law nm) 1763 (.aload_n 2, 1) 1764 := ⟨(by decide +kernel : decode code 1763 = .ok (.aload_n 2, 1)), rfl⟩
theorem dL_law_1764 {nm : String} : pm_dec (mL_law nm) 1764 (.aload_n 0, 1) 1765 := ⟨(by decide +kernel : decode code 1764 = .ok (.aload_n 0, 1)), rfl⟩
theorem dL_law_1765 {nm : String} : pm_dec (mL_law nm) 1765 (.iload_n 3, 1) 1766 := ⟨(by decide +kernel : decode code 1765 = .ok (.iload_n 3, 1)), rfl⟩
theorem dL_law_1766 {nm : String} : pm_dec (mL_law nm) 1766 (.iconst 1, 1) 1767 := ⟨(by decide +kernel : decode code 1766 = .ok (.iconst 1, 1)), rfl⟩
theorem dL_law_1767 {nm : String} : pm_dec (mL_law nm) 1767 (.iadd, 1) 1768 := ⟨(by decide +kernel : decode code 1767 = .ok (.iadd, 1)), rfl⟩
theorem dL_law_1768 {nm : String} : pm_dec (mL_law nm) 1768 (.iaload, 1) 1769 := ⟨(by decide +kernel : decode code 1768 = .ok (.iaload, 1)), rfl⟩
theorem dL_law_1769 {nm : String} : pm_dec (mL_law nm) 1769 (.aload_n 0, 1) 1770 := ⟨(by decide +kernel : decode code 1769 = .ok (.aload_n 0, 1)), rfl⟩
theorem dL_law_1770 {nm : String} : pm_dec (mL_law nm) 1770 (.iload_n 3, 1) 1771 := ⟨(by decide +kernel : decode code 1770 = .ok (.iload_n 3, 1)), rfl⟩
theorem dL_law_1771 {nm : String} : pm_dec (mL_law nm) 1771 (.iconst 2, 1) 1772 := ⟨(by decide +kernel : decode code 1771 = .ok (.iconst 2, 1)), rfl⟩
theorem dL_law_1772 {nm : String} : pm_dec (mL_law nm) 1772 (.iadd, 1) 1773 := ⟨(by decide +kernel : decode code 1772 = .ok (.iadd, 1)), rfl⟩
theorem dL_law_1773 {nm : String} : pm_dec (mL_law nm) 1773 (.iaload, 1) 1774 := ⟨(by decide +kernel : decode code 1773 = .ok (.iaload, 1)), rfl⟩
theorem dL_law_1774 {nm : String} : pm_dec (mL_law nm) 1774 (.invokevirtual 198, 3) 1777 := ⟨(by decide +kernel : decode code 1774 = .ok (.invokevirtual 198, 3)), rfl⟩
theorem dL_law_1777 {nm : String} : pm_dec (mL_law nm) 1777 (.if_icmp .eq 328, 3) 1780 := ⟨(by decide +kernel : decode code 1777 = .ok (.if_icmp .eq 328, 3)), rfl⟩
theorem dL_law_1782 {nm : String} : pm_dec (mL_law nm) 1782 (.aload_n 1, 1) 1783 := ⟨(by decide +kernel : decode code 1782 = .ok (.aload_n 1, 1)), rfl⟩
theorem dL_law_1783 {nm : String} : pm_dec (mL_law nm) 1783 (.aload_n 0, 1) 1784 := ⟨(by decide +kernel : decode code 1783 = .ok (.aload_n 0, 1)), rfl⟩
theorem dL_law_1784 {nm : String} : pm_dec (mL_law nm) 1784 (.iload_n 3, 1) 1785 := ⟨(by decide +kernel : decode code 1784 = .ok (.iload_n 3, 1)), rfl⟩
theorem dL_law_1785 {nm : String} : pm_dec (mL_law nm) 1785 (.iconst 1, 1) 1786 := ⟨(by decide +kernel : decode code 1785 = .ok (.iconst 1, 1)), rfl⟩
theorem dL_law_1786 {nm : String} : pm_dec (mL_law nm) 1786 (.iadd, 1) 1787 := ⟨(by decide +kernel : decode code 1786 = .ok (.iadd, 1)), rfl⟩
theorem dL_law_1787 {nm : String} : pm_dec (mL_law nm) 1787 (.iaload, 1) 1788 := ⟨(by decide +kernel : decode code 1787 = .ok (.iaload, 1)), rfl⟩
theorem dL_law_1788 {nm : String} : pm_dec (mL_law nm) 1788 (.aload_n 0, 1) 1789 := ⟨(by decide +kernel : decode code 1788 = .ok (.aload_n 0, 1)), rfl⟩
theorem dL_law_1789 {nm : String} : pm_dec (mL_law nm) 1789 (.iload_n 3, 1) 1790 := ⟨(by decide +kernel : decode code 1789 = .ok (.iload_n 3, 1)), rfl⟩
theorem dL_law_1790 {nm : String} : pm_dec (mL_law nm) 1790 (.iconst 2, 1) 1791 := ⟨(by decide +kernel : decode code 1790 = .ok (.iconst 2, 1)), rfl⟩
theorem dL_law_1791 {nm : String} : pm_dec (mL_law nm) 1791 (.iadd, 1) 1792 := ⟨(by decide +kernel : decode code 1791 = .ok (.iadd, 1)), rfl⟩
theorem dL_law_1792 {nm : String} : pm_dec (mL_law nm) 1792 (.iaload, 1) 1793 := ⟨(by decide +kernel : decode code 1792 = .ok (.iaload, 1)), rfl⟩
theorem dL_law_1793 {nm : String} : pm_dec (mL_law nm) 1793 (.aload_n 0, 1) 1794 := ⟨(by decide +kernel : decode code 1793 = .ok (.aload_n 0, 1)), rfl⟩
theorem dL_law_1794 {nm : String} : pm_dec (mL_law nm) 1794 (.iload_n 3, 1) 1795 := ⟨(by decide +kernel : decode code 1794 = .ok (.iload_n 3, 1)), rfl⟩
theorem dL_law_1795 {nm : String} : pm_dec (mL_law nm) 1795 (.iconst 3, 1) 1796 := ⟨(by decide +kernel : decode code 1795 = .ok (.iconst 3, 1)), rfl⟩
theorem dL_law_1796 {nm : String} : pm_dec (mL_law nm) 1796 (.iadd, 1) 1797 := ⟨(by decide +kernel : decode code 1796 = .ok (.iadd, 1)), rfl⟩
theorem dL_law_1797 {nm : String} : pm_dec (mL_law nm) 1797 (.iaload, 1) 1798 := ⟨(by decide +kernel : decode code 1797 = .ok (.iaload, 1)), rfl⟩
theorem dL_law_1798 {nm : String} : pm_dec (mL_law nm) 1798 (.invokevirtual 199, 3) 1801 := ⟨(by decide +kernel : decode code 1798 = .ok (.invokevirtual 199, 3)), rfl⟩
theorem dL_law_1801 {nm : String} : pm_dec (mL_law nm) 1801 (.aload_n 2, 1) 1802 := ⟨(by decide +kernel : decode code 1801 = .ok (.aload_n 2, 1)), rfl⟩
theorem dL_law_1802 {nm : String} : pm_dec (mL_law nm) 1802 (.aload_n 0, 1) 1803 := ⟨(by decide +kernel : decode code 1802 = .ok (.aload_n 0, 1)), rfl⟩
theorem dL_law_1803 {nm : String} : pm_dec (mL_law nm) 1803 (.iload_n 3, 1) 1804 := ⟨(by decide +kernel : decode code 1803 = .ok (.iload_n 3, 1)), rfl⟩
theorem dL_law_1804 {nm : String} : pm_dec (mL_law nm) 1804 (.iconst 1, 1) 1805 := ⟨(by decide +kernel : decode code 1804 = .ok (.iconst 1, 1)), rfl⟩
theorem dL_law_1805 {nm : String} : pm_dec (mL_law nm) 1805 (.iadd, 1) 1806 := ⟨(by decide +kernel : decode code 1805 = .ok (.iadd, 1)), rfl⟩
theorem dL_law_1806 {nm : String} : pm_dec (mL_law nm) 1806 (.iaload, 1) 1807 := ⟨(by decide +kernel : decode code 1806 = .ok (.iaload, 1)), rfl⟩
theorem dL_law_1807 {nm : String} : pm_dec (mL_law nm) 1807 (.aload_n 0, 1) 1808 := ⟨(by decide +kernel : decode code 1807 = .ok (.aload_n 0, 1)), rfl⟩
theorem dL_law_1808 {nm : String} : pm_dec (mL_law nm) 1808 (.iload_n 3, 1) 1809 := ⟨(by decide +kernel : decode code 1808 = .ok (.iload_n 3, 1)), rfl⟩
theorem dL_law_1809 {nm : String} : pm_dec (mL_law nm) 1809 (.iconst 2, 1) 1810 := ⟨(by decide +kernel : decode code 1809 = .ok (.iconst 2, 1)), rfl⟩
theorem dL_law_1810 {nm : String} : pm_dec (mL_law nm) 1810 (.iadd, 1) 1811 := ⟨(by decide +kernel : decode code 1810 = .ok (.iadd, 1)), rfl⟩
theorem dL_law_1811 {nm : String} : pm_dec (mL_law nm) 1811 (.iaload, 1) 1812 := ⟨(by decide +kernel : decode code 1811 = .ok (.iaload, 1)), rfl⟩
theorem dL_law_1812 {nm : String} : pm_dec (mL_law nm) 1812 (.aload_n 0, 1) 1813 := ⟨(by decide +kernel : decode code 1812 = .ok (.aload_n 0, 1)), rfl⟩
theorem dL_law_1813 {nm : String} : pm_dec (mL_law nm) 1813 (.iload_n 3, 1) 1814 := ⟨(by decide +kernel : decode code 1813 = .ok (.iload_n 3, 1)), rfl⟩
theorem dL_law_1814 {nm : String} : pm_dec (mL_law nm) 1814 (.iconst 3, 1) 1815 := ⟨(by decide +kernel : decode code 1814 = .ok (.iconst 3, 1)), rfl⟩
theorem dL_law_1815 {nm : String} : pm_dec (mL_law nm) 1815 (.iadd, 1) 1816 := ⟨(by decide +kernel : decode code 1815 = .ok (.iadd, 1)), rfl⟩
theorem dL_law_1816 {nm : String} : pm_dec (mL_law nm) 1816 (.iaload, 1) 1817 := ⟨(by decide +kernel : decode code 1816 = .ok (.iaload, 1)), rfl⟩
theorem dL_law_1817 {nm : String} : pm_dec (mL_law nm) 1817 (.invokevirtual 202, 3) 1820 := ⟨(by decide +kernel : decode code 1817 = .ok (.invokevirtual 202, 3)), rfl⟩
theorem dL_law_1820 {nm : String} : pm_dec (mL_law nm) 1820 (.if_icmp .eq 285, 3) 1823 := ⟨(by decide +kernel : decode code 1820 = .ok (.if_icmp .eq 285, 3)), rfl⟩
theorem dL_law_1825 {nm : String} : pm_dec (mL_law nm) 1825 (.aload_n 1, 1) 1826 := ⟨(by decide +kernel : decode code 1825 = .ok (.aload_n 1, 1)), rfl⟩
theorem dL_law_1826 {nm : String} : pm_dec (mL_law nm) 1826 (.aload_n 0, 1) 1827 := ⟨(by decide +kernel : decode code 1826 = .ok (.aload_n 0, 1)), rfl⟩
theorem dL_law_1827 {nm : String} : pm_dec (mL_law nm) 1827 (.iload_n 3, 1) 1828 := ⟨(by decide +kernel : decode code 1827 = .ok (.iload_n 3, 1)), rfl⟩
theorem dL_law_1828 {nm : String} : pm_dec (mL_law nm) 1828 (.iconst 1, 1) 1829 := ⟨(by decide +kernel : decode code 1828 = .ok (.iconst 1, 1)), rfl⟩
theorem dL_law_1829 {nm : String} : pm_dec (mL_law nm) 1829 (.iadd, 1) 1830 := ⟨(by decide +kernel : decode code 1829 = .ok (.iadd, 1)), rfl⟩
theorem dL_law_1830 {nm : String} : pm_dec (mL_law nm) 1830 (.iaload, 1) 1831 := ⟨(by decide +kernel : decode code 1830 = .ok (.iaload, 1)), rfl⟩
theorem dL_law_1831 {nm : String} : pm_dec (mL_law nm) 1831 (.invokevirtual 203, 3) 1834 := ⟨(by decide +kernel : decode code 1831 = .ok (.invokevirtual 203, 3)), rfl⟩
theorem dL_law_1834 {nm : String} : pm_dec (mL_law nm) 1834 (.aload_n 2, 1) 1835 := ⟨(by decide +kernel : decode code 1834 = .ok (.aload_n 2, 1)), rfl⟩
theorem dL_law_1835 {nm : String} : pm_dec (mL_law nm) 1835 (.aload_n 0, 1) 1836 := ⟨(by decide +kernel : decode code 1835 = .ok (.aload_n 0, 1)), rfl⟩
theorem dL_law_1836 {nm : String} : pm_dec (mL_law nm) 1836 (.iload_n 3, 1) 1837 := ⟨(by decide +kernel : decode code 1836 = .ok (.iload_n 3, 1)), rfl⟩
theorem dL_law_1837 {nm : String} : pm_dec (mL_law nm) 1837 (.iconst 1, 1) 1838 := ⟨(by decide +kernel : decode code 1837 = .ok (.iconst 1, 1)), rfl⟩
theorem dL_law_1838 {nm : String} : pm_dec (mL_law nm) 1838 (.iadd, 1) 1839 := ⟨(by decide +kernel : decode code 1838 = .ok (.iadd, 1)), rfl⟩
theorem dL_law_1839 {nm : String} : pm_dec (mL_law nm) 1839 (.iaload, 1) 1840 := ⟨(by decide +kernel : decode code 1839 = .ok (.iaload, 1)), rfl⟩
theorem dL_law_1840 {nm : String} : pm_dec (mL_law nm) 1840 (.invokevirtual 206, 3) 1843 := ⟨(by decide +kernel : decode code 1840 = .ok (.invokevirtual 206, 3)), rfl⟩
theorem dL_law_1843 {nm : String} : pm_dec (mL_law nm) 1843 (.if_icmp .eq 262, 3) 1846 := ⟨(by decide +kernel : decode code 1843 = .ok (.if_icmp .eq 262, 3)), rfl⟩
theorem dL_law_1848 {nm : String} : pm_dec (mL_law nm) 1848 (.aload_n 1, 1) 1849 := ⟨(by decide +kernel : decode code 1848 = .ok (.aload_n 1, 1)), rfl⟩
theorem dL_law_1849 {nm : String} : pm_dec (mL_law nm) 1849 (.aload_n 0, 1) 1850 := ⟨(by decide +kernel : decode code 1849 = .ok (.aload_n 0, 1)), rfl⟩
theorem dL_law_1850 {nm : String} : pm_dec (mL_law nm) 1850 (.iload_n 3, 1) 1851 := ⟨(by decide +kernel : decode code 1850 = .ok (.iload_n 3, 1)), rfl⟩
theorem dL_law_1851 {nm : String} : pm_dec (mL_law nm) 1851 (.iconst 1, 1) 1852 := ⟨(by decide +kernel : decode code 1851 = .ok (.iconst 1, 1)), rfl⟩
theorem dL_law_1852 {nm : String} : pm_dec (mL_law nm) 1852 (.iadd, 1) 1853 := ⟨(by decide +kernel : decode code 1852 = .ok (.iadd, 1)), rfl⟩
theorem dL_law_1853 {nm : String} : pm_dec (mL_law nm) 1853 (.iaload, 1) 1854 := ⟨(by decide +kernel : decode code 1853 = .ok (.iaload, 1)), rfl⟩
theorem dL_law_1854 {nm : String} : pm_dec (mL_law nm) 1854 (.aload_n 0, 1) 1855 := ⟨(by decide +kernel : decode code 1854 = .ok (.aload_n 0, 1)), rfl⟩
theorem dL_law_1855 {nm : String} : pm_dec (mL_law nm) 1855 (.iload_n 3, 1) 1856 := ⟨(by decide +kernel : decode code 1855 = .ok (.iload_n 3, 1)), rfl⟩
theorem dL_law_1856 {nm : String} : pm_dec (mL_law nm) 1856 (.iconst 2, 1) 1857 := ⟨(by decide +kernel : decode code 1856 = .ok (.iconst 2, 1)), rfl⟩
theorem dL_law_1857 {nm : String} : pm_dec (mL_law nm) 1857 (.iadd, 1) 1858 := ⟨(by decide +kernel : decode code 1857 = .ok (.iadd, 1)), rfl⟩
