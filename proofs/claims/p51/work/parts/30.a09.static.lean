theorem dL_law_1702 {nm : String} : pm_dec (mL_law nm) 1702 (.iload_n 3, 1) 1703 := ⟨(by decide +kernel : decode code 1702 = .ok (.iload_n 3, 1)), rfl⟩
theorem dL_law_1703 {nm : String} : pm_dec (mL_law nm) 1703 (.iconst 1, 1) 1704 := ⟨(by decide +kernel : decode code 1703 = .ok (.iconst 1, 1)), rfl⟩
theorem dL_law_1704 {nm : String} : pm_dec (mL_law nm) 1704 (.iadd, 1) 1705 := ⟨(by decide +kernel : decode code 1704 = .ok (.iadd, 1)), rfl⟩
theorem dL_law_1705 {nm : String} : pm_dec (mL_law nm) 1705 (.iaload, 1) 1706 := ⟨(by decide +kernel : decode code 1705 = .ok (.iaload, 1)), rfl⟩
theorem dL_law_1706 {nm : String} : pm_dec (mL_law nm) 1706 (.invokevirtual 186, 3) 1709 := ⟨(by decide +kernel : decode code 1706 = .ok (.invokevirtual 186, 3)), rfl⟩
theorem dL_law_1709 {nm : String} : pm_dec (mL_law nm) 1709 (.pop, 1) 1710 := ⟨(by decide +kernel : decode code 1709 = .ok (.pop, 1)), rfl⟩
theorem dL_law_1710 {nm : String} : pm_dec (mL_law nm) 1710 (.goto 395, 3) 1713 := ⟨(by decide +kernel : decode code 1710 = .ok (.goto 395, 3)), rfl⟩
theorem dL_law_1713 {nm : String} : pm_dec (mL_law nm) 1713 (.aload_n 1, 1) 1714 := ⟨(by decide +kernel : decode code 1713 = .ok (.aload_n 1, 1)), rfl⟩
theorem dL_law_1714 {nm : String} : pm_dec (mL_law nm) 1714 (.invokevirtual 187, 3) 1717 := ⟨(by decide +kernel : decode code 1714 = .ok (.invokevirtual 187, 3)), rfl⟩
theorem dL_law_1717 {nm : String} : pm_dec (mL_law nm) 1717 (.pop, 1) 1718 := ⟨(by decide +kernel : decode code 1717 = .ok (.pop, 1)), rfl⟩
theorem dL_law_1718 {nm : String} : pm_dec (mL_law nm) 1718 (.aload_n 2, 1) 1719 := ⟨(by decide +kernel : decode code 1718 = .ok (.aload_n 2, 1)), rfl⟩
theorem dL_law_1719 {nm : String} : pm_dec (mL_law nm) 1719 (.invokevirtual 190, 3) 1722 := ⟨(by decide +kernel : decode code 1719 = .ok (.invokevirtual 190, 3)), rfl⟩
theorem dL_law_1722 {nm : String} : pm_dec (mL_law nm) 1722 (.pop, 1) 1723 := ⟨(by decide +kernel : decode code 1722 = .ok (.pop, 1)), rfl⟩
theorem dL_law_1723 {nm : String} : pm_dec (mL_law nm) 1723 (.goto 382, 3) 1726 := ⟨(by decide +kernel : decode code 1723 = .ok (.goto 382, 3)), rfl⟩
theorem dL_law_1726 {nm : String} : pm_dec (mL_law nm) 1726 (.aload_n 1, 1) 1727 := ⟨(by decide +kernel : decode code 1726 = .ok (.aload_n 1, 1)), rfl⟩
theorem dL_law_1727 {nm : String} : pm_dec (mL_law nm) 1727 (.aload_n 0, 1) 1728 := ⟨(by decide +kernel : decode code 1727 = .ok (.aload_n 0, 1)), rfl⟩
theorem dL_law_1728 {nm : String} : pm_dec (mL_law nm) 1728 (.iload_n 3, 1) 1729 := ⟨(by decide +kernel : decode code 1728 = .ok (.iload_n 3, 1)), rfl⟩
theorem dL_law_1729 {nm : String} : pm_dec (mL_law nm) 1729 (.iconst 1, 1) 1730 := ⟨(by decide +kernel : decode code 1729 = .ok (.iconst 1, 1)), rfl⟩
theorem dL_law_1730 {nm : String} : pm_dec (mL_law nm) 1730 (.iadd, 1) 1731 := ⟨(by decide +kernel : decode code 1730 = .ok (.iadd, 1)), rfl⟩
theorem dL_law_1731 {nm : String} : pm_dec (mL_law nm) 1731 (.iaload, 1) 1732 := ⟨(by decide +kernel : decode code 1731 = .ok (.iaload, 1)), rfl⟩
theorem dL_law_1732 {nm : String} : pm_dec (mL_law nm) 1732 (.invokevirtual 191, 3) 1735 := ⟨(by decide +kernel : decode code 1732 = .ok (.invokevirtual 191, 3)), rfl⟩
theorem dL_law_1735 {nm : String} : pm_dec (mL_law nm) 1735 (.pop, 1) 1736 := ⟨(by decide +kernel : decode code 1735 = .ok (.pop, 1)), rfl⟩
theorem dL_law_1736 {nm : String} : pm_dec (mL_law nm) 1736 (.aload_n 2, 1) 1737 := ⟨(by decide +kernel : decode code 1736 = .ok (.aload_n 2, 1)), rfl⟩
theorem dL_law_1737 {nm : String} : pm_dec (mL_law nm) 1737 (.aload_n 0, 1) 1738 := ⟨(by decide +kernel : decode code 1737 = .ok (.aload_n 0, 1)), rfl⟩
theorem dL_law_1738 {nm : String} : pm_dec (mL_law nm) 1738 (.iload_n 3, 1) 1739 := ⟨(by decide +kernel : decode code 1738 = .ok (.iload_n 3, 1)), rfl⟩
theorem dL_law_1739 {nm : String} : pm_dec (mL_law nm) 1739 (.iconst 1, 1) 1740 := ⟨(by decide +kernel : decode code 1739 = .ok (.iconst 1, 1)), rfl⟩
theorem dL_law_1740 {nm : String} : pm_dec (mL_law nm) 1740 (.iadd, 1) 1741 := ⟨(by decide +kernel : decode code 1740 = .ok (.iadd, 1)), rfl⟩
theorem dL_law_1741 {nm : String} : pm_dec (mL_law nm) 1741 (.iaload, 1) 1742 := ⟨(by decide +kernel : decode code 1741 = .ok (.iaload, 1)), rfl⟩
theorem dL_law_1742 {nm : String} : pm_dec (mL_law nm) 1742 (.invokevirtual 194, 3) 1745 := ⟨(by decide +kernel : decode code 1742 = .ok (.invokevirtual 194, 3)), rfl⟩
theorem dL_law_1745 {nm : String} : pm_dec (mL_law nm) 1745 (.pop, 1) 1746 := ⟨(by decide +kernel : decode code 1745 = .ok (.pop, 1)), rfl⟩
theorem dL_law_1746 {nm : String} : pm_dec (mL_law nm) 1746 (.goto 359, 3) 1749 := ⟨(by decide +kernel : decode code 1746 = .ok (.goto 359, 3)), rfl⟩
theorem dL_law_1749 {nm : String} : pm_dec (mL_law nm) 1749 (.aload_n 1, 1) 1750 := ⟨(by decide +kernel : decode code 1749 = .ok (.aload_n 1, 1)), rfl⟩
theorem dL_law_1750 {nm : String} : pm_dec (mL_law nm) 1750 (.aload_n 0, 1) 1751 := ⟨(by decide +kernel : decode code 1750 = .ok (.aload_n 0, 1)), rfl⟩
theorem dL_law_1751 {nm : String} : pm_dec (mL_law nm) 1751 (.iload_n 3, 1) 1752 := ⟨(by decide +kernel : decode code 1751 = .ok (.iload_n 3, 1)), rfl⟩
theorem dL_law_1752 {nm : String} : pm_dec (mL_law nm) 1752 (.iconst 1, 1) 1753 := ⟨(by decide +kernel : decode code 1752 = .ok (.iconst 1, 1)), rfl⟩
theorem dL_law_1753 {nm : String} : pm_dec (mL_law nm) 1753 (.iadd, 1) 1754 := ⟨(by decide +kernel : decode code 1753 = .ok (.iadd, 1)), rfl⟩
theorem dL_law_1754 {nm : String} : pm_dec (mL_law nm) 1754 (.iaload, 1) 1755 := ⟨(by decide +kernel : decode code 1754 = .ok (.iaload, 1)), rfl⟩
theorem dL_law_1755 {nm : String} : pm_dec (mL_law nm) 1755 (.aload_n 0, 1) 1756 := ⟨(by decide +kernel : decode code 1755 = .ok (.aload_n 0, 1)), rfl⟩
theorem dL_law_1756 {nm : String} : pm_dec (mL_law nm) 1756 (.iload_n 3, 1) 1757 := ⟨(by decide +kernel : decode code 1756 = .ok (.iload_n 3, 1)), rfl⟩
theorem dL_law_1757 {nm : String} : pm_dec (mL_law nm) 1757 (.iconst 2, 1) 1758 := ⟨(by decide +kernel : decode code 1757 = .ok (.iconst 2, 1)), rfl⟩
theorem dL_law_1758 {nm : String} : pm_dec (mL_law nm) 1758 (.iadd, 1) 1759 := ⟨(by decide +kernel : decode code 1758 = .ok (.iadd, 1)), rfl⟩
theorem dL_law_1759 {nm : String} : pm_dec (mL_law nm) 1759 (.iaload, 1) 1760 := ⟨(by decide +kernel : decode code 1759 = .ok (.iaload, 1)), rfl⟩
theorem dL_law_1760 {nm : String} : pm_dec (mL_law nm) 1760 (.invokevirtual 195, 3) 1763 := ⟨(by decide +kernel : decode code 1760 = .ok (.invokevirtual 195, 3)), rfl⟩
theorem dL_law_1763 {nm : String} : pm_dec (mL_law nm) 1763 (.pop, 1) 1764 := ⟨(by decide +kernel : decode code 1763 = .ok (.pop, 1)), rfl⟩
theorem dL_law_1764 {nm : String} : pm_dec (mL_law nm) 1764 (.aload_n 2, 1) 1765 := ⟨(by decide +kernel : decode code 1764 = .ok (.aload_n 2, 1)), rfl⟩
theorem dL_law_1765 {nm : String} : pm_dec (mL_law nm) 1765 (.aload_n 0, 1) 1766 := ⟨(by decide +kernel : decode code 1765 = .ok (.aload_n 0, 1)), rfl⟩
theorem dL_law_1766 {nm : String} : pm_dec (mL_law nm) 1766 (.iload_n 3, 1) 1767 := ⟨(by decide +kernel : decode code 1766 = .ok (.iload_n 3, 1)), rfl⟩
theorem dL_law_1767 {nm : String} : pm_dec (mL_law nm) 1767 (.iconst 1, 1) 1768 := ⟨(by decide +kernel : decode code 1767 = .ok (.iconst 1, 1)), rfl⟩
theorem dL_law_1768 {nm : String} : pm_dec (mL_law nm) 1768 (.iadd, 1) 1769 := ⟨(by decide +kernel : decode code 1768 = .ok (.iadd, 1)), rfl⟩
theorem dL_law_1769 {nm : String} : pm_dec (mL_law nm) 1769 (.iaload, 1) 1770 := ⟨(by decide +kernel : decode code 1769 = .ok (.iaload, 1)), rfl⟩
theorem dL_law_1770 {nm : String} : pm_dec (mL_law nm) 1770 (.aload_n 0, 1) 1771 := ⟨(by decide +kernel : decode code 1770 = .ok (.aload_n 0, 1)), rfl⟩
theorem dL_law_1771 {nm : String} : pm_dec (mL_law nm) 1771 (.iload_n 3, 1) 1772 := ⟨(by decide +kernel : decode code 1771 = .ok (.iload_n 3, 1)), rfl⟩
theorem dL_law_1772 {nm : String} : pm_dec (mL_law nm) 1772 (.iconst 2, 1) 1773 := ⟨(by decide +kernel : decode code 1772 = .ok (.iconst 2, 1)), rfl⟩
theorem dL_law_1773 {nm : String} : pm_dec (mL_law nm) 1773 (.iadd, 1) 1774 := ⟨(by decide +kernel : decode code 1773 = .ok (.iadd, 1)), rfl⟩
theorem dL_law_1774 {nm : String} : pm_dec (mL_law nm) 1774 (.iaload, 1) 1775 := ⟨(by decide +kernel : decode code 1774 = .ok (.iaload, 1)), rfl⟩
theorem dL_law_1775 {nm : String} : pm_dec (mL_law nm) 1775 (.invokevirtual 198, 3) 1778 := ⟨(by decide +kernel : decode code 1775 = .ok (.invokevirtual 198, 3)), rfl⟩
theorem dL_law_1778 {nm : String} : pm_dec (mL_law nm) 1778 (.pop, 1) 1779 := ⟨(by decide +kernel : decode code 1778 = .ok (.pop, 1)), rfl⟩
theorem dL_law_1779 {nm : String} : pm_dec (mL_law nm) 1779 (.goto 326, 3) 1782 := ⟨(by decide +kernel : decode code 1779 = .ok (.goto 326, 3)), rfl⟩
theorem dL_law_1782 {nm : String} : pm_dec (mL_law nm) 1782 (.aload_n 1, 1) 1783 := ⟨(by decide +kernel : decode code 1782 = .ok (.aload_n 1, 1)), rfl⟩
theorem dL_law_1783 {nm : String} : pm_dec (mL_law nm) 1783 (.aload_n 0, 1) 1784 := ⟨(by decide +kernel : decode code 1783 = .ok (.aload_n 0, 1)), rfl⟩
theorem dL_law_1784 {nm : String} : pm_dec (mL_law nm) 1784 (.iload_n 3, 1) 1785 := ⟨(by decide +kernel : decode code 1784 = .ok (.iload_n 3, 1)), rfl⟩
theorem dL_law_1785 {nm : String} : pm_dec (mL_law nm) 1785 (.iconst 1, 1) 1786 := ⟨(by decide +kernel : decode code 1785 = .ok (.iconst 1, 1)), rfl⟩
theorem dL_law_1786 {nm : String} : pm_dec (mL_law nm) 1786 (.iadd, 1) 1787 := ⟨(by decide +kernel : decode code 1786 = .ok (.iadd, 1)), rfl⟩
theorem dL_law_1787 {nm : String} : pm_dec (mL_law nm) 1787 (.iaload, 1) 1788 := ⟨(by decide +kernel : decode code 1787 = .ok (.iaload, 1)), rfl⟩
theorem dL_law_1788 {nm : String} : pm_dec (mL_law nm) 1788 (.aload_n 0, 1) 1789 := ⟨(by decide +kernel : decode code 1788 = .ok (.aload_n 0, 1)), rfl⟩
theorem dL_law_1789 {nm : String} : pm_dec (mL_law nm) 1789 (.iload_n 3, 1) 1790 := ⟨(by decide +kernel : decode code 1789 = .ok (.iload_n 3, 1)), rfl⟩
theorem dL_law_1790 {nm : String} : pm_dec (mL_law nm) 1790 (.iconst 2, 1) 1791 := ⟨(by decide +kernel : decode code 1790 = .ok (.iconst 2, 1)), rfl⟩
theorem dL_law_1791 {nm : String} : pm_dec (mL_law nm) 1791 (.iadd, 1) 1792 := ⟨(by decide +kernel : decode code 1791 = .ok (.iadd, 1)), rfl⟩
theorem dL_law_1792 {nm : String} : pm_dec (mL_law nm) 1792 (.iaload, 1) 1793 := ⟨(by decide +kernel : decode code 1792 = .ok (.iaload, 1)), rfl⟩
theorem dL_law_1793 {nm : String} : pm_dec (mL_law nm) 1793 (.aload_n 0, 1) 1794 := ⟨(by decide +kernel : decode code 1793 = .ok (.aload_n 0, 1)), rfl⟩
theorem dL_law_1794 {nm : String} : pm_dec (mL_law nm) 1794 (.iload_n 3, 1) 1795 := ⟨(by decide +kernel : decode code 1794 = .ok (.iload_n 3, 1)), rfl⟩
theorem dL_law_1795 {nm : String} : pm_dec (mL_law nm) 1795 (.iconst 3, 1) 1796 := ⟨(by decide +kernel : decode code 1795 = .ok (.iconst 3, 1)), rfl⟩
theorem dL_law_1796 {nm : String} : pm_dec (mL_law nm) 1796 (.iadd, 1) 1797 := ⟨(by decide +kernel : decode code 1796 = .ok (.iadd, 1)), rfl⟩
theorem dL_law_1797 {nm : String} : pm_dec (mL_law nm) 1797 (.iaload, 1) 1798 := ⟨(by decide +kernel : decode code 1797 = .ok (.iaload, 1)), rfl⟩
theorem dL_law_1798 {nm : String} : pm_dec (mL_law nm) 1798 (.invokevirtual 199, 3) 1801 := ⟨(by decide +kernel : decode code 1798 = .ok (.invokevirtual 199, 3)), rfl⟩
theorem dL_law_1801 {nm : String} : pm_dec (mL_law nm) 1801 (.pop, 1) 1802 := ⟨(by decide +kernel : decode code 1801 = .ok (.pop, 1)), rfl⟩
theorem dL_law_1802 {nm : String} : pm_dec (mL_law nm) 1802 (.aload_n 2, 1) 1803 := ⟨(by decide +kernel : decode code 1802 = .ok (.aload_n 2, 1)), rfl⟩
theorem dL_law_1803 {nm : String} : pm_dec (mL_law nm) 1803 (.aload_n 0, 1) 1804 := ⟨(by decide +kernel : decode code 1803 = .ok (.aload_n 0, 1)), rfl⟩
theorem dL_law_1804 {nm : String} : pm_dec (mL_law nm) 1804 (.iload_n 3, 1) 1805 := ⟨(by decide +kernel : decode code 1804 = .ok (.iload_n 3, 1)), rfl⟩
theorem dL_law_1805 {nm : String} : pm_dec (mL_law nm) 1805 (.iconst 1, 1) 1806 := ⟨(by decide +kernel : decode code 1805 = .ok (.iconst 1, 1)), rfl⟩
theorem dL_law_1806 {nm : String} : pm_dec (mL_law nm) 1806 (.iadd, 1) 1807 := ⟨(by decide +kernel : decode code 1806 = .ok (.iadd, 1)), rfl⟩
theorem dL_law_1807 {nm : String} : pm_dec (mL_law nm) 1807 (.iaload, 1) 1808 := ⟨(by decide +kernel : decode code 1807 = .ok (.iaload, 1)), rfl⟩
theorem dL_law_1808 {nm : String} : pm_dec (mL_law nm) 1808 (.aload_n 0, 1) 1809 := ⟨(by decide +kernel : decode code 1808 = .ok (.aload_n 0, 1)), rfl⟩
theorem dL_law_1809 {nm : String} : pm_dec (mL_law nm) 1809 (.iload_n 3, 1) 1810 := ⟨(by decide +kernel : decode code 1809 = .ok (.iload_n 3, 1)), rfl⟩
theorem dL_law_1810 {nm : String} : pm_dec (mL_law nm) 1810 (.iconst 2, 1) 1811 := ⟨(by decide +kernel : decode code 1810 = .ok (.iconst 2, 1)), rfl⟩
theorem dL_law_1811 {nm : String} : pm_dec (mL_law nm) 1811 (.iadd, 1) 1812 := ⟨(by decide +kernel : decode code 1811 = .ok (.iadd, 1)), rfl⟩
theorem dL_law_1812 {nm : String} : pm_dec (mL_law nm) 1812 (.iaload, 1) 1813 := ⟨(by decide +kernel : decode code 1812 = .ok (.iaload, 1)), rfl⟩
theorem dL_law_1813 {nm : String} : pm_dec (mL_law nm) 1813 (.aload_n 0, 1) 1814 := ⟨(by decide +kernel : decode code 1813 = .ok (.aload_n 0, 1)), rfl⟩
theorem dL_law_1814 {nm : String} : pm_dec (mL_law nm) 1814 (.iload_n 3, 1) 1815 := ⟨(by decide +kernel : decode code 1814 = .ok (.iload_n 3, 1)), rfl⟩
theorem dL_law_1815 {nm : String} : pm_dec (mL_law nm) 1815 (.iconst 3, 1) 1816 := ⟨(by decide +kernel : decode code 1815 = .ok (.iconst 3, 1)), rfl⟩
theorem dL_law_1816 {nm : String} : pm_dec (mL_law nm) 1816 (.iadd, 1) 1817 := ⟨(by decide +kernel : decode code 1816 = .ok (.iadd, 1)), rfl⟩
theorem dL_law_1817 {nm : String} : pm_dec (mL_law nm) 1817 (.iaload, 1) 1818 := ⟨(by decide +kernel : decode code 1817 = .ok (.iaload, 1)), rfl⟩
theorem dL_law_1818 {nm : String} : pm_dec (mL_law nm) 1818 (.invokevirtual 202, 3) 1821 := ⟨(by decide +kernel : decode code 1818 = .ok (.invokevirtual 202, 3)), rfl⟩
theorem dL_law_1821 {nm : String} : pm_dec (mL_law nm) 1821 (.pop, 1) 1822 := ⟨(by decide +kernel : decode code 1821 = .ok (.pop, 1)), rfl⟩
theorem dL_law_1822 {nm : String} : pm_dec (mL_law nm) 1822 (.goto 283, 3) 1825 := ⟨(by decide +kernel : decode code 1822 = .ok (.goto 283, 3)), rfl⟩
theorem dL_law_1825 {nm : String} : pm_dec (mL_law nm) 1825 (.aload_n 1, 1) 1826 := ⟨(by decide +kernel : decode code 1825 = .ok (.aload_n 1, 1)), rfl⟩
theorem dL_law_1826 {nm : String} : pm_dec (mL_law nm) 1826 (.aload_n 0, 1) 1827 := ⟨(by decide +kernel : decode code 1826 = .ok (.aload_n 0, 1)), rfl⟩
theorem dL_law_1827 {nm : String} : pm_dec (mL_law nm) 1827 (.iload_n 3, 1) 1828 := ⟨(by decide +kernel : decode code 1827 = .ok (.iload_n 3, 1)), rfl⟩
theorem dL_law_1828 {nm : String} : pm_dec (mL_law nm) 1828 (.iconst 1, 1) 1829 := ⟨(by decide +kernel : decode code 1828 = .ok (.iconst 1, 1)), rfl⟩
theorem dL_law_1829 {nm : String} : pm_dec (mL_law nm) 1829 (.iadd, 1) 1830 := ⟨(by decide +kernel : decode code 1829 = .ok (.iadd, 1)), rfl⟩
theorem dL_law_1830 {nm : String} : pm_dec (mL_law nm) 1830 (.iaload, 1) 1831 := ⟨(by decide +kernel : decode code 1830 = .ok (.iaload, 1)), rfl⟩
theorem dL_law_1831 {nm : String} : pm_dec (mL_law nm) 1831 (.invokevirtual 203, 3) 1834 := ⟨(by decide +kernel : decode code 1831 = .ok (.invokevirtual 203, 3)), rfl⟩
theorem dL_law_1834 {nm : String} : pm_dec (mL_law nm) 1834 (.pop, 1) 1835 := ⟨(by decide +kernel : decode code 1834 = .ok (.pop, 1)), rfl⟩
theorem dL_law_1835 {nm : String} : pm_dec (mL_law nm) 1835 (.aload_n 2, 1) 1836 := ⟨(by decide +kernel : decode code 1835 = .ok (.aload_n 2, 1)), rfl⟩
theorem dL_law_1836 {nm : String} : pm_dec (mL_law nm) 1836 (.aload_n 0, 1) 1837 := ⟨(by decide +kernel : decode code 1836 = .ok (.aload_n 0, 1)), rfl⟩
theorem dL_law_1837 {nm : String} : pm_dec (mL_law nm) 1837 (.iload_n 3, 1) 1838 := ⟨(by decide +kernel : decode code 1837 = .ok (.iload_n 3, 1)), rfl⟩
theorem dL_law_1838 {nm : String} : pm_dec (mL_law nm) 1838 (.iconst 1, 1) 1839 := ⟨(by decide +kernel : decode code 1838 = .ok (.iconst 1, 1)), rfl⟩
theorem dL_law_1839 {nm : String} : pm_dec (mL_law nm) 1839 (.iadd, 1) 1840 := ⟨(by decide +kernel : decode code 1839 = .ok (.iadd, 1)), rfl⟩
theorem dL_law_1840 {nm : String} : pm_dec (mL_law nm) 1840 (.iaload, 1) 1841 := ⟨(by decide +kernel : decode code 1840 = .ok (.iaload, 1)), rfl⟩
theorem dL_law_1841 {nm : String} : pm_dec (mL_law nm) 1841 (.invokevirtual 206, 3) 1844 := ⟨(by decide +kernel : decode code 1841 = .ok (.invokevirtual 206, 3)), rfl⟩
theorem dL_law_1844 {nm : String} : pm_dec (mL_law nm) 1844 (.pop, 1) 1845 := ⟨(by decide +kernel : decode code 1844 = .ok (.pop, 1)), rfl⟩
theorem dL_law_1845 {nm : String} : pm_dec (mL_law nm) 1845 (.goto 260, 3) 1848 := ⟨(by decide +kernel : decode code 1845 = .ok (.goto 260, 3)), rfl⟩
theorem dL_law_1848 {nm : String} : pm_dec (mL_law nm) 1848 (.aload_n 1, 1) 1849 := ⟨(by decide +kernel : decode code 1848 = .ok (.aload_n 1, 1)), rfl⟩
theorem dL_law_1849 {nm : String} : pm_dec (mL_law nm) 1849 (.aload_n 0, 1) 1850 := ⟨(by decide +kernel : decode code 1849 = .ok (.aload_n 0, 1)), rfl⟩
theorem dL_law_1850 {nm : String} : pm_dec (mL_law nm) 1850 (.iload_n 3, 1) 1851 := ⟨(by decide +kernel : decode code 1850 = .ok (.iload_n 3, 1)), rfl⟩
theorem dL_law_1851 {nm : String} : pm_dec (mL_law nm) 1851 (.iconst 1, 1) 1852 := ⟨(by decide +kernel : decode code 1851 = .ok (.iconst 1, 1)), rfl⟩
theorem dL_law_1852 {nm : String} : pm_dec (mL_law nm) 1852 (.iadd, 1) 1853 := ⟨(by decide +kernel : decode code 1852 = .ok (.iadd, 1)), rfl⟩
theorem dL_law_1853 {nm : String} : pm_dec (mL_law nm) 1853 (.iaload, 1) 1854 := ⟨(by decide +kernel : decode code 1853 = .ok (.iaload, 1)), rfl⟩
theorem dL_law_1854 {nm : String} : pm_dec (mL_law nm) 1854 (.aload_n 0, 1) 1855 := ⟨(by decide +kernel : decode code 1854 = .ok (.aload_n 0, 1)), rfl⟩
theorem dL_law_1855 {nm : String} : pm_dec (mL_law nm) 1855 (.iload_n 3, 1) 1856 := ⟨(by decide +kernel : decode code 1855 = .ok (.iload_n 3, 1)), rfl⟩
theorem dL_law_1856 {nm : String} : pm_dec (mL_law nm) 1856 (.iconst 2, 1) 1857 := ⟨(by decide +kernel : decode code 1856 = .ok (.iconst 2, 1)), rfl⟩
theorem dL_law_1857 {nm : String} : pm_dec (mL_law nm) 1857 (.iadd, 1) 1858 := ⟨(by decide +kernel : decode code 1857 = .ok (.iadd, 1)), rfl⟩
theorem dL_law_1858 {nm : String} : pm_dec (mL_law nm) 1858 (.iaload, 1) 1859 := ⟨(by decide +kernel : decode code 1858 = .ok (.iaload, 1)), rfl⟩
theorem dL_law_1859 {nm : String} : pm_dec (mL_law nm) 1859 (.aload_n 0, 1) 1860 := ⟨(by decide +kernel : decode code 1859 = .ok (.aload_n 0, 1)), rfl⟩
theorem dL_law_1860 {nm : String} : pm_dec (mL_law nm) 1860 (.iload_n 3, 1) 1861 := ⟨(by decide +kernel : decode code 1860 = .ok (.iload_n 3, 1)), rfl⟩
theorem dL_law_1861 {nm : String} : pm_dec (mL_law nm) 1861 (.iconst 3, 1) 1862 := ⟨(by decide +kernel : decode code 1861 = .ok (.iconst 3, 1)), rfl⟩
theorem dL_law_1862 {nm : String} : pm_dec (mL_law nm) 1862 (.iadd, 1) 1863 := ⟨(by decide +kernel : decode code 1862 = .ok (.iadd, 1)), rfl⟩
theorem dL_law_1863 {nm : String} : pm_dec (mL_law nm) 1863 (.iaload, 1) 1864 := ⟨(by decide +kernel : decode code 1863 = .ok (.iaload, 1)), rfl⟩
theorem dL_law_1864 {nm : String} : pm_dec (mL_law nm) 1864 (.invokevirtual 207, 3) 1867 := ⟨(by decide +kernel : decode code 1864 = .ok (.invokevirtual 207, 3)), rfl⟩
theorem dL_law_1867 {nm : String} : pm_dec (mL_law nm) 1867 (.pop, 1) 1868 := ⟨(by decide +kernel : decode code 1867 = .ok (.pop, 1)), rfl⟩
