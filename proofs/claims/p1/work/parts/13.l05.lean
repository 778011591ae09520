theorem kd_W_law_1572 : decode kc_W_law 1572 = .ok (.iload 5, 2) := by decide +kernel
theorem kd_W_law_1574 : decode kc_W_law 1574 = .ok (.if_icmp .eq 5, 3) := by decide +kernel
theorem kd_W_law_1577 : decode kc_W_law 1577 = .ok (.iconst 0, 1) := by decide +kernel
theorem kd_W_law_1578 : decode kc_W_law 1578 = .ok (.ireturn, 1) := by decide +kernel
theorem kd_W_law_1579 : decode kc_W_law 1579 = .ok (.iload 5, 2) := by decide +kernel
theorem kd_W_law_1581 : decode kc_W_law 1581 = .ok (.ifCond .ne 14, 3) := by decide +kernel
theorem kd_W_law_1584 : decode kc_W_law 1584 = .ok (.aload_n 3, 1) := by decide +kernel
theorem kd_W_law_1585 : decode kc_W_law 1585 = .ok (.iconst 0, 1) := by decide +kernel
theorem kd_W_law_1586 : decode kc_W_law 1586 = .ok (.laload, 1) := by decide +kernel
theorem kd_W_law_1587 : decode kc_W_law 1587 = .ok (.lload 6, 2) := by decide +kernel
theorem kd_W_law_1589 : decode kc_W_law 1589 = .ok (.lcmp, 1) := by decide +kernel
theorem kd_W_law_1590 : decode kc_W_law 1590 = .ok (.ifCond .eq 5, 3) := by decide +kernel
theorem kd_W_law_1593 : decode kc_W_law 1593 = .ok (.iconst 0, 1) := by decide +kernel
theorem kd_W_law_1594 : decode kc_W_law 1594 = .ok (.ireturn, 1) := by decide +kernel
theorem kd_W_law_1595 : decode kc_W_law 1595 = .ok (.goto 418, 3) := by decide +kernel
theorem kd_W_law_1598 : decode kc_W_law 1598 = .ok (.aload_n 1, 1) := by decide +kernel
theorem kd_W_law_1599 : decode kc_W_law 1599 = .ok (.aload_n 0, 1) := by decide +kernel
theorem kd_W_law_1600 : decode kc_W_law 1600 = .ok (.iload 4, 2) := by decide +kernel
theorem kd_W_law_1602 : decode kc_W_law 1602 = .ok (.iconst 1, 1) := by decide +kernel
theorem kd_W_law_1603 : decode kc_W_law 1603 = .ok (.iadd, 1) := by decide +kernel
theorem kd_W_law_1604 : decode kc_W_law 1604 = .ok (.iaload, 1) := by decide +kernel
theorem kd_W_law_1605 : decode kc_W_law 1605 = .ok (.aload_n 0, 1) := by decide +kernel
theorem kd_W_law_1606 : decode kc_W_law 1606 = .ok (.iload 4, 2) := by decide +kernel
theorem kd_W_law_1608 : decode kc_W_law 1608 = .ok (.iconst 2, 1) := by decide +kernel
theorem kd_W_law_1609 : decode kc_W_law 1609 = .ok (.iadd, 1) := by decide +kernel
theorem kd_W_law_1610 : decode kc_W_law 1610 = .ok (.iaload, 1) := by decide +kernel
theorem kd_W_law_1611 : decode kc_W_law 1611 = .ok (.aload_n 3, 1) := by decide +kernel
theorem kd_W_law_1612 : decode kc_W_law 1612 = .ok (.invokestatic 176, 3) := by decide +kernel
theorem kd_W_law_1615 : decode kc_W_law 1615 = .ok (.istore 5, 2) := by decide +kernel
theorem kd_W_law_1617 : decode kc_W_law 1617 = .ok (.aload_n 2, 1) := by decide +kernel
theorem kd_W_law_1618 : decode kc_W_law 1618 = .ok (.aload_n 0, 1) := by decide +kernel
theorem kd_W_law_1619 : decode kc_W_law 1619 = .ok (.iload 4, 2) := by decide +kernel
theorem kd_W_law_1621 : decode kc_W_law 1621 = .ok (.iconst 1, 1) := by decide +kernel
theorem kd_W_law_1622 : decode kc_W_law 1622 = .ok (.iadd, 1) := by decide +kernel
theorem kd_W_law_1623 : decode kc_W_law 1623 = .ok (.iaload, 1) := by decide +kernel
theorem kd_W_law_1624 : decode kc_W_law 1624 = .ok (.aload_n 0, 1) := by decide +kernel
theorem kd_W_law_1625 : decode kc_W_law 1625 = .ok (.iload 4, 2) := by decide +kernel
theorem kd_W_law_1627 : decode kc_W_law 1627 = .ok (.iconst 2, 1) := by decide +kernel
theorem kd_W_law_1628 : decode kc_W_law 1628 = .ok (.iadd, 1) := by decide +kernel
theorem kd_W_law_1629 : decode kc_W_law 1629 = .ok (.iaload, 1) := by decide +kernel
theorem kd_W_law_1630 : decode kc_W_law 1630 = .ok (.invokevirtual 178, 3) := by decide +kernel
theorem kd_W_law_1633 : decode kc_W_law 1633 = .ok (.lstore 6, 2) := by decide +kernel
theorem kd_W_law_1635 : decode kc_W_law 1635 = .ok (.aload_n 2, 1) := by decide +kernel
theorem kd_W_law_1636 : decode kc_W_law 1636 = .ok (.invokevirtual 113, 3) := by decide +kernel
theorem kd_W_law_1639 : decode kc_W_law 1639 = .ok (.iload 5, 2) := by decide +kernel
theorem kd_W_law_1641 : decode kc_W_law 1641 = .ok (.if_icmp .eq 5, 3) := by decide +kernel
theorem kd_W_law_1644 : decode kc_W_law 1644 = .ok (.iconst 0, 1) := by decide +kernel
theorem kd_W_law_1645 : decode kc_W_law 1645 = .ok (.ireturn, 1) := by decide +kernel
theorem kd_W_law_1646 : decode kc_W_law 1646 = .ok (.iload 5, 2) := by decide +kernel
theorem kd_W_law_1648 : decode kc_W_law 1648 = .ok (.ifCond .ne 14, 3) := by decide +kernel
theorem kd_W_law_1651 : decode kc_W_law 1651 = .ok (.aload_n 3, 1) := by decide +kernel
theorem kd_W_law_1652 : decode kc_W_law 1652 = .ok (.iconst 0, 1) := by decide +kernel
theorem kd_W_law_1653 : decode kc_W_law 1653 = .ok (.laload, 1) := by decide +kernel
theorem kd_W_law_1654 : decode kc_W_law 1654 = .ok (.lload 6, 2) := by decide +kernel
theorem kd_W_law_1656 : decode kc_W_law 1656 = .ok (.lcmp, 1) := by decide +kernel
theorem kd_W_law_1657 : decode kc_W_law 1657 = .ok (.ifCond .eq 5, 3) := by decide +kernel
theorem kd_W_law_1660 : decode kc_W_law 1660 = .ok (.iconst 0, 1) := by decide +kernel
theorem kd_W_law_1661 : decode kc_W_law 1661 = .ok (.ireturn, 1) := by decide +kernel
theorem kd_W_law_1662 : decode kc_W_law 1662 = .ok (.goto 351, 3) := by decide +kernel
theorem kd_W_law_1665 : decode kc_W_law 1665 = .ok (.aload_n 1, 1) := by decide +kernel
theorem kd_W_law_1666 : decode kc_W_law 1666 = .ok (.aload_n 0, 1) := by decide +kernel
theorem kd_W_law_1667 : decode kc_W_law 1667 = .ok (.iload 4, 2) := by decide +kernel
theorem kd_W_law_1669 : decode kc_W_law 1669 = .ok (.iconst 1, 1) := by decide +kernel
theorem kd_W_law_1670 : decode kc_W_law 1670 = .ok (.iadd, 1) := by decide +kernel
theorem kd_W_law_1671 : decode kc_W_law 1671 = .ok (.iaload, 1) := by decide +kernel
theorem kd_W_law_1672 : decode kc_W_law 1672 = .ok (.aload_n 0, 1) := by decide +kernel
theorem kd_W_law_1673 : decode kc_W_law 1673 = .ok (.iload 4, 2) := by decide +kernel
theorem kd_W_law_1675 : decode kc_W_law 1675 = .ok (.iconst 2, 1) := by decide +kernel
theorem kd_W_law_1676 : decode kc_W_law 1676 = .ok (.iadd, 1) := by decide +kernel
theorem kd_W_law_1677 : decode kc_W_law 1677 = .ok (.iaload, 1) := by decide +kernel
theorem kd_W_law_1678 : decode kc_W_law 1678 = .ok (.aload_n 3, 1) := by decide +kernel
theorem kd_W_law_1679 : decode kc_W_law 1679 = .ok (.invokestatic 179, 3) := by decide +kernel
theorem kd_W_law_1682 : decode kc_W_law 1682 = .ok (.istore 5, 2) := by decide +kernel
theorem kd_W_law_1684 : decode kc_W_law 1684 = .ok (.aload_n 2, 1) := by decide +kernel
theorem kd_W_law_1685 : decode kc_W_law 1685 = .ok (.aload_n 0, 1) := by decide +kernel
theorem kd_W_law_1686 : decode kc_W_law 1686 = .ok (.iload 4, 2) := by decide +kernel
theorem kd_W_law_1688 : decode kc_W_law 1688 = .ok (.iconst 1, 1) := by decide +kernel
theorem kd_W_law_1689 : decode kc_W_law 1689 = .ok (.iadd, 1) := by decide +kernel
theorem kd_W_law_1690 : decode kc_W_law 1690 = .ok (.iaload, 1) := by decide +kernel
theorem kd_W_law_1691 : decode kc_W_law 1691 = .ok (.aload_n 0, 1) := by decide +kernel
theorem kd_W_law_1692 : decode kc_W_law 1692 = .ok (.iload 4, 2) := by decide +kernel
theorem kd_W_law_1694 : decode kc_W_law 1694 = .ok (.iconst 2, 1) := by decide +kernel
theorem kd_W_law_1695 : decode kc_W_law 1695 = .ok (.iadd, 1) := by decide +kernel
theorem kd_W_law_1696 : decode kc_W_law 1696 = .ok (.iaload, 1) := by decide +kernel
theorem kd_W_law_1697 : decode kc_W_law 1697 = .ok (.invokevirtual 181, 3) := by decide +kernel
theorem kd_W_law_1700 : decode kc_W_law 1700 = .ok (.lstore 6, 2) := by decide +kernel
theorem kd_W_law_1702 : decode kc_W_law 1702 = .ok (.aload_n 2, 1) := by decide +kernel
theorem kd_W_law_1703 : decode kc_W_law 1703 = .ok (.invokevirtual 113, 3) := by decide +kernel
theorem kd_W_law_1706 : decode kc_W_law 1706 = .ok (.iload 5, 2) := by decide +kernel
theorem kd_W_law_1708 : decode kc_W_law 1708 = .ok (.if_icmp .eq 5, 3) := by decide +kernel
theorem kd_W_law_1711 : decode kc_W_law 1711 = .ok (.iconst 0, 1) := by decide +kernel
theorem kd_W_law_1712 : decode kc_W_law 1712 = .ok (.ireturn, 1) := by decide +kernel
theorem kd_W_law_1713 : decode kc_W_law 1713 = .ok (.iload 5, 2) := by decide +kernel
theorem kd_W_law_1715 : decode kc_W_law 1715 = .ok (.ifCond .ne 14, 3) := by decide +kernel
theorem kd_W_law_1718 : decode kc_W_law 1718 = .ok (.aload_n 3, 1) := by decide +kernel
theorem kd_W_law_1719 : decode kc_W_law 1719 = .ok (.iconst 0, 1) := by decide +kernel
theorem kd_W_law_1720 : decode kc_W_law 1720 = .ok (.laload, 1) := by decide +kernel
theorem kd_W_law_1721 : decode kc_W_law 1721 = .ok (.lload 6, 2) := by decide +kernel
theorem kd_W_law_1723 : decode kc_W_law 1723 = .ok (.lcmp, 1) := by decide +kernel
theorem kd_W_law_1724 : decode kc_W_law 1724 = .ok (.ifCond .eq 5, 3) := by decide +kernel
theorem kd_W_law_1727 : decode kc_W_law 1727 = .ok (.iconst 0, 1) := by decide +kernel
theorem kd_W_law_1728 : decode kc_W_law 1728 = .ok (.ireturn, 1) := by decide +kernel
theorem kd_W_law_1729 : decode kc_W_law 1729 = .ok (.goto 284, 3) := by decide +kernel
theorem kd_W_law_1732 : decode kc_W_law 1732 = .ok (.aload_n 1, 1) := by decide +kernel
theorem kd_W_law_1733 : decode kc_W_law 1733 = .ok (.aload_n 0, 1) := by decide +kernel
theorem kd_W_law_1734 : decode kc_W_law 1734 = .ok (.iload 4, 2) := by decide +kernel
theorem kd_W_law_1736 : decode kc_W_law 1736 = .ok (.iconst 1, 1) := by decide +kernel
theorem kd_W_law_1737 : decode kc_W_law 1737 = .ok (.iadd, 1) := by decide +kernel
theorem kd_W_law_1738 : decode kc_W_law 1738 = .ok (.iaload, 1) := by decide +kernel
theorem kd_W_law_1739 : decode kc_W_law 1739 = .ok (.aload_n 0, 1) := by decide +kernel
theorem kd_W_law_1740 : decode kc_W_law 1740 = .ok (.iload 4, 2) := by decide +kernel
theorem kd_W_law_1742 : decode kc_W_law 1742 = .ok (.iconst 2, 1) := by decide +kernel
theorem kd_W_law_1743 : decode kc_W_law 1743 = .ok (.iadd, 1) := by decide +kernel
theorem kd_W_law_1744 : decode kc_W_law 1744 = .ok (.iaload, 1) := by decide +kernel
theorem kd_W_law_1745 : decode kc_W_law 1745 = .ok (.aload_n 0, 1) := by decide +kernel
theorem kd_W_law_1746 : decode kc_W_law 1746 = .ok (.iload 4, 2) := by decide +kernel
theorem kd_W_law_1748 : decode kc_W_law 1748 = .ok (.iconst 3, 1) := by decide +kernel
theorem kd_W_law_1749 : decode kc_W_law 1749 = .ok (.iadd, 1) := by decide +kernel
theorem kd_W_law_1750 : decode kc_W_law 1750 = .ok (.iaload, 1) := by decide +kernel
theorem kd_W_law_1751 : decode kc_W_law 1751 = .ok (.aload_n 0, 1) := by decide +kernel
theorem kd_W_law_1752 : decode kc_W_law 1752 = .ok (.iload 4, 2) := by decide +kernel
theorem kd_W_law_1754 : decode kc_W_law 1754 = .ok (.iconst 4, 1) := by decide +kernel
theorem kd_W_law_1755 : decode kc_W_law 1755 = .ok (.iadd, 1) := by decide +kernel
theorem kd_W_law_1756 : decode kc_W_law 1756 = .ok (.iaload, 1) := by decide +kernel
theorem kd_W_law_1757 : decode kc_W_law 1757 = .ok (.aload_n 3, 1) := by decide +kernel
theorem kd_W_law_1758 : decode kc_W_law 1758 = .ok (.invokestatic 182, 3) := by decide +kernel
theorem kd_W_law_1761 : decode kc_W_law 1761 = .ok (.istore 5, 2) := by decide +kernel
theorem kd_W_law_1763 : decode kc_W_law 1763 = .ok (.aload_n 2, 1) := by decide +kernel
theorem kd_W_law_1764 : decode kc_W_law 1764 = .ok (.aload_n 0, 1) := by decide +kernel
theorem kd_W_law_1765 : decode kc_W_law 1765 = .ok (.iload 4, 2) := by decide +kernel
theorem kd_W_law_1767 : decode kc_W_law 1767 = .ok (.iconst 1, 1) := by decide +kernel
theorem kd_W_law_1768 : decode kc_W_law 1768 = .ok (.iadd, 1) := by decide +kernel
theorem kd_W_law_1769 : decode kc_W_law 1769 = .ok (.iaload, 1) := by decide +kernel
theorem kd_W_law_1770 : decode kc_W_law 1770 = .ok (.aload_n 0, 1) := by decide +kernel
theorem kd_W_law_1771 : decode kc_W_law 1771 = .ok (.iload 4, 2) := by decide +kernel
theorem kd_W_law_1773 : decode kc_W_law 1773 = .ok (.iconst 2, 1) := by decide +kernel
theorem kd_W_law_1774 : decode kc_W_law 1774 = .ok (.iadd, 1) := by decide +kernel
theorem kd_W_law_1775 : decode kc_W_law 1775 = .ok (.iaload, 1) := by decide +kernel
theorem kd_W_law_1776 : decode kc_W_law 1776 = .ok (.aload_n 0, 1) := by decide +kernel
theorem kd_W_law_1777 : decode kc_W_law 1777 = .ok (.iload 4, 2) := by decide +kernel
theorem kd_W_law_1779 : decode kc_W_law 1779 = .ok (.iconst 3, 1) := by decide +kernel
theorem kd_W_law_1780 : decode kc_W_law 1780 = .ok (.iadd, 1) := by decide +kernel
theorem kd_W_law_1781 : decode kc_W_law 1781 = .ok (.iaload, 1) := by decide +kernel
theorem kd_W_law_1782 : decode kc_W_law 1782 = .ok (.aload_n 0, 1) := by decide +kernel
theorem kd_W_law_1783 : decode kc_W_law 1783 = .ok (.iload 4, 2) := by decide +kernel
theorem kd_W_law_1785 : decode kc_W_law 1785 = .ok (.iconst 4, 1) := by decide +kernel
theorem kd_W_law_1786 : decode kc_W_law 1786 = .ok (.iadd, 1) := by decide +kernel
theorem kd_W_law_1787 : decode kc_W_law 1787 = .ok (.iaload, 1) := by decide +kernel
theorem kd_W_law_1788 : decode kc_W_law 1788 = .ok (.invokevirtual 184, 3) := by decide +kernel
theorem kd_W_law_1791 : decode kc_W_law 1791 = .ok (.istore 6, 2) := by decide +kernel
theorem kd_W_law_1793 : decode kc_W_law 1793 = .ok (.aload_n 2, 1) := by decide +kernel
theorem kd_W_law_1794 : decode kc_W_law 1794 = .ok (.invokevirtual 113, 3) := by decide +kernel
theorem kd_W_law_1797 : decode kc_W_law 1797 = .ok (.iload 5, 2) := by decide +kernel
theorem kd_W_law_1799 : decode kc_W_law 1799 = .ok (.if_icmp .eq 5, 3) := by decide +kernel
theorem kd_W_law_1802 : decode kc_W_law 1802 = .ok (.iconst 0, 1) := by decide +kernel
theorem kd_W_law_1803 : decode kc_W_law 1803 = .ok (.ireturn, 1) := by decide +kernel
theorem kd_W_law_1804 : decode kc_W_law 1804 = .ok (.iload 5, 2) := by decide +kernel
theorem kd_W_law_1806 : decode kc_W_law 1806 = .ok (.ifCond .ne 15, 3) := by decide +kernel
theorem kd_W_law_1809 : decode kc_W_law 1809 = .ok (.aload_n 3, 1) := by decide +kernel
theorem kd_W_law_1810 : decode kc_W_law 1810 = .ok (.iconst 0, 1) := by decide +kernel
theorem kd_W_law_1811 : decode kc_W_law 1811 = .ok (.laload, 1) := by decide +kernel
theorem kd_W_law_1812 : decode kc_W_law 1812 = .ok (.iload 6, 2) := by decide +kernel
theorem kd_W_law_1814 : decode kc_W_law 1814 = .ok (.i2l, 1) := by decide +kernel
theorem kd_W_law_1815 : decode kc_W_law 1815 = .ok (.lcmp, 1) := by decide +kernel
theorem kd_W_law_1816 : decode kc_W_law 1816 = .ok (.ifCond .eq 5, 3) := by decide +kernel
theorem kd_W_law_1819 : decode kc_W_law 1819 = .ok (.iconst 0, 1) := by decide +kernel
theorem kd_W_law_1820 : decode kc_W_law 1820 = .ok (.ireturn, 1) := by decide +kernel
theorem kd_W_law_1821 : decode kc_W_law 1821 = .ok (.goto 192, 3) := by decide +kernel
theorem kd_W_law_1824 : decode kc_W_law 1824 = .ok (.aload_n 1, 1) := by decide +kernel
theorem kd_W_law_1825 : decode kc_W_law 1825 = .ok (.aload_n 0, 1) := by decide +kernel
theorem kd_W_law_1826 : decode kc_W_law 1826 = .ok (.iload 4, 2) := by decide +kernel
theorem kd_W_law_1828 : decode kc_W_law 1828 = .ok (.iconst 1, 1) := by decide +kernel
theorem kd_W_law_1829 : decode kc_W_law 1829 = .ok (.iadd, 1) := by decide +kernel
theorem kd_W_law_1830 : decode kc_W_law 1830 = .ok (.iaload, 1) := by decide +kernel
theorem kd_W_law_1831 : decode kc_W_law 1831 = .ok (.aload_n 0, 1) := by decide +kernel
theorem kd_W_law_1832 : decode kc_W_law 1832 = .ok (.iload 4, 2) := by decide +kernel
theorem kd_W_law_1834 : decode kc_W_law 1834 = .ok (.iconst 2, 1) := by decide +kernel
theorem kd_W_law_1835 : decode kc_W_law 1835 = .ok (.iadd, 1) := by decide +kernel
theorem kd_W_law_1836 : decode kc_W_law 1836 = .ok (.iaload, 1) := by decide +kernel
theorem kd_W_law_1837 : decode kc_W_law 1837 = .ok (.aload_n 3, 1) := by decide +kernel
theorem kd_W_law_1838 : decode kc_W_law 1838 = .ok (.invokestatic 185, 3) := by decide +kernel
theorem kd_W_law_1841 : decode kc_W_law 1841 = .ok (.istore 5, 2) := by decide +kernel
theorem kd_W_law_1843 : decode kc_W_law 1843 = .ok (.aload_n 2, 1) := by decide +kernel
theorem kd_W_law_1844 : decode kc_W_law 1844 = .ok (.aload_n 0, 1) := by decide +kernel
theorem kd_W_law_1845 : decode kc_W_law 1845 = .ok (.iload 4, 2) := by decide +kernel
theorem kd_W_law_1847 : decode kc_W_law 1847 = .ok (.iconst 1, 1) := by decide +kernel
theorem kd_W_law_1848 : decode kc_W_law 1848 = .ok (.iadd, 1) := by decide +kernel
theorem kd_W_law_1849 : decode kc_W_law 1849 = .ok (.iaload, 1) := by decide +kernel
theorem kd_W_law_1850 : decode kc_W_law 1850 = .ok (.aload_n 0, 1) := by decide +kernel
theorem kd_W_law_1851 : decode kc_W_law 1851 = .ok (.iload 4, 2) := by decide +kernel
theorem kd_W_law_1853 : decode kc_W_law 1853 = .ok (.iconst 2, 1) := by decide +kernel
theorem kd_W_law_1854 : decode kc_W_law 1854 = .ok (.iadd, 1) := by decide +kernel
theorem kd_W_law_1855 : decode kc_W_law 1855 = .ok (.iaload, 1) := by decide +kernel
theorem kd_W_law_1856 : decode kc_W_law 1856 = .ok (.invokevirtual 187, 3) := by decide +kernel
theorem kd_W_law_1859 : decode kc_W_law 1859 = .ok (.lstore 6, 2) := by decide +kernel
theorem kd_W_law_1861 : decode kc_W_law 1861 = .ok (.aload_n 2, 1) := by decide +kernel
theorem kd_W_law_1862 : decode kc_W_law 1862 = .ok (.invokevirtual 113, 3) := by decide +kernel
theorem kd_W_law_1865 : decode kc_W_law 1865 = .ok (.iload 5, 2) := by decide +kernel
theorem kd_W_law_1867 : decode kc_W_law 1867 = .ok (.if_icmp .eq 5, 3) := by decide +kernel
theorem kd_W_law_1870 : decode kc_W_law 1870 = .ok (.iconst 0, 1) := by decide +kernel
theorem kd_W_law_1871 : decode kc_W_law 1871 = .ok (.ireturn, 1) := by decide +kernel
theorem kd_W_law_1872 : decode kc_W_law 1872 = .ok (.iload 5, 2) := by decide +kernel
theorem kd_W_law_1874 : decode kc_W_law 1874 = .ok (.ifCond .ne 14, 3) := by decide +kernel
theorem kd_W_law_1877 : decode kc_W_law 1877 = .ok (.aload_n 3, 1) := by decide +kernel
theorem kd_W_law_1878 : decode kc_W_law 1878 = .ok (.iconst 0, 1) := by decide +kernel
theorem kd_W_law_1879 : decode kc_W_law 1879 = .ok (.laload, 1) := by decide +kernel
theorem kd_W_law_1880 : decode kc_W_law 1880 = .ok (.lload 6, 2) := by decide +kernel
theorem kd_W_law_1882 : decode kc_W_law 1882 = .ok (.lcmp, 1) := by decide +kernel
theorem kd_W_law_1883 : decode kc_W_law 1883 = .ok (.ifCond .eq 5, 3) := by decide +kernel
theorem kd_W_law_1886 : decode kc_W_law 1886 = .ok (.iconst 0, 1) := by decide +kernel
theorem kd_W_law_1887 : decode kc_W_law 1887 = .ok (.ireturn, 1) := by decide +kernel
theorem kd_W_law_1888 : decode kc_W_law 1888 = .ok (.goto 125, 3) := by decide +kernel
theorem kd_W_law_1891 : decode kc_W_law 1891 = .ok (.aload_n 1, 1) := by decide +kernel
theorem kd_W_law_1892 : decode kc_W_law 1892 = .ok (.aload_n 0, 1) := by decide +kernel
theorem kd_W_law_1893 : decode kc_W_law 1893 = .ok (.iload 4, 2) := by decide +kernel
theorem kd_W_law_1895 : decode kc_W_law 1895 = .ok (.iconst 1, 1) := by decide +kernel
theorem kd_W_law_1896 : decode kc_W_law 1896 = .ok (.iadd, 1) := by decide +kernel
theorem kd_W_law_1897 : decode kc_W_law 1897 = .ok (.iaload, 1) := by decide +kernel
theorem kd_W_law_1898 : decode kc_W_law 1898 = .ok (.aload_n 0, 1) := by decide +kernel
theorem kd_W_law_1899 : decode kc_W_law 1899 = .ok (.iload 4, 2) := by decide +kernel
theorem kd_W_law_1901 : decode kc_W_law 1901 = .ok (.iconst 2, 1) := by decide +kernel
theorem kd_W_law_1902 : decode kc_W_law 1902 = .ok (.iadd, 1) := by decide +kernel
theorem kd_W_law_1903 : decode kc_W_law 1903 = .ok (.iaload, 1) := by decide +kernel
theorem kd_W_law_1904 : decode kc_W_law 1904 = .ok (.aload_n 3, 1) := by decide +kernel
theorem kd_W_law_1905 : decode kc_W_law 1905 = .ok (.invokestatic 188, 3) := by decide +kernel
theorem kd_W_law_1908 : decode kc_W_law 1908 = .ok (.istore 5, 2) := by decide +kernel
theorem kd_W_law_1910 : decode kc_W_law 1910 = .ok (.aload_n 2, 1) := by decide +kernel
theorem kd_W_law_1911 : decode kc_W_law 1911 = .ok (.aload_n 0, 1) := by decide +kernel
theorem kd_W_law_1912 : decode kc_W_law 1912 = .ok (.iload 4, 2) := by decide +kernel
theorem kd_W_law_1914 : decode kc_W_law 1914 = .ok (.iconst 1, 1) := by decide +kernel
theorem kd_W_law_1915 : decode kc_W_law 1915 = .ok (.iadd, 1) := by decide +kernel
theorem kd_W_law_1916 : decode kc_W_law 1916 = .ok (.iaload, 1) := by decide +kernel
theorem kd_W_law_1917 : decode kc_W_law 1917 = .ok (.aload_n 0, 1) := by decide +kernel
theorem kd_W_law_1918 : decode kc_W_law 1918 = .ok (.iload 4, 2) := by decide +kernel
theorem kd_W_law_1920 : decode kc_W_law 1920 = .ok (.iconst 2, 1) := by decide +kernel
theorem kd_W_law_1921 : decode kc_W_law 1921 = .ok (.iadd, 1) := by decide +kernel
theorem kd_W_law_1922 : decode kc_W_law 1922 = .ok (.iaload, 1) := by decide +kernel
theorem kd_W_law_1923 : decode kc_W_law 1923 = .ok (.invokevirtual 190, 3) := by decide +kernel
theorem kd_W_law_1926 : decode kc_W_law 1926 = .ok (.lstore 6, 2) := by decide +kernel
theorem kd_W_law_1928 : decode kc_W_law 1928 = .ok (.aload_n 2, 1) := by decide +kernel
theorem kd_W_law_1929 : decode kc_W_law 1929 = .ok (.invokevirtual 113, 3) := by decide +kernel
theorem kd_W_law_1932 : decode kc_W_law 1932 = .ok (.iload 5, 2) := by decide +kernel
theorem kd_W_law_1934 : decode kc_W_law 1934 = .ok (.if_icmp .eq 5, 3) := by decide +kernel
theorem kd_W_law_1937 : decode kc_W_law 1937 = .ok (.iconst 0, 1) := by decide +kernel
theorem kd_W_law_1938 : decode kc_W_law 1938 = .ok (.ireturn, 1) := by decide +kernel
theorem kd_W_law_1939 : decode kc_W_law 1939 = .ok (.iload 5, 2) := by decide +kernel
theorem kd_W_law_1941 : decode kc_W_law 1941 = .ok (.ifCond .ne 14, 3) := by decide +kernel
theorem kd_W_law_1944 : decode kc_W_law 1944 = .ok (.aload_n 3, 1) := by decide +kernel
theorem kd_W_law_1945 : decode kc_W_law 1945 = .ok (.iconst 0, 1) := by decide +kernel
theorem kd_W_law_1946 : decode kc_W_law 1946 = .ok (.laload, 1) := by decide +kernel
