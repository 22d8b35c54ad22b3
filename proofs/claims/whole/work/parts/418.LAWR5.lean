/-! THE LAW: rows 5 (written by gen/glaw.py) -/
theorem dL_law_1611 : decode cL_law 1611 = .ok (.if_icmp .eq 763, 3) := by decide +kernel
theorem dL_law_1614 : decode cL_law 1614 = .ok (.iconst 0, 1) := by decide +kernel
theorem dL_law_1615 : decode cL_law 1615 = .ok (.ireturn, 1) := by decide +kernel
theorem dL_law_1616 : decode cL_law 1616 = .ok (.aload_n 1, 1) := by decide +kernel
theorem dL_law_1617 : decode cL_law 1617 = .ok (.aload_n 0, 1) := by decide +kernel
theorem dL_law_1618 : decode cL_law 1618 = .ok (.iload 4, 2) := by decide +kernel
theorem dL_law_1620 : decode cL_law 1620 = .ok (.iconst 1, 1) := by decide +kernel
theorem dL_law_1621 : decode cL_law 1621 = .ok (.iadd, 1) := by decide +kernel
theorem dL_law_1622 : decode cL_law 1622 = .ok (.iaload, 1) := by decide +kernel
theorem dL_law_1623 : decode cL_law 1623 = .ok (.aload_n 0, 1) := by decide +kernel
theorem dL_law_1624 : decode cL_law 1624 = .ok (.iload 4, 2) := by decide +kernel
theorem dL_law_1626 : decode cL_law 1626 = .ok (.iconst 2, 1) := by decide +kernel
theorem dL_law_1627 : decode cL_law 1627 = .ok (.iadd, 1) := by decide +kernel
theorem dL_law_1628 : decode cL_law 1628 = .ok (.iaload, 1) := by decide +kernel
theorem dL_law_1629 : decode cL_law 1629 = .ok (.invokevirtual 117, 3) := by decide +kernel
theorem dL_law_1632 : decode cL_law 1632 = .ok (.aload_n 2, 1) := by decide +kernel
theorem dL_law_1633 : decode cL_law 1633 = .ok (.aload_n 0, 1) := by decide +kernel
theorem dL_law_1634 : decode cL_law 1634 = .ok (.iload 4, 2) := by decide +kernel
theorem dL_law_1636 : decode cL_law 1636 = .ok (.iconst 1, 1) := by decide +kernel
theorem dL_law_1637 : decode cL_law 1637 = .ok (.iadd, 1) := by decide +kernel
theorem dL_law_1638 : decode cL_law 1638 = .ok (.iaload, 1) := by decide +kernel
theorem dL_law_1639 : decode cL_law 1639 = .ok (.aload_n 0, 1) := by decide +kernel
theorem dL_law_1640 : decode cL_law 1640 = .ok (.iload 4, 2) := by decide +kernel
theorem dL_law_1642 : decode cL_law 1642 = .ok (.iconst 2, 1) := by decide +kernel
theorem dL_law_1643 : decode cL_law 1643 = .ok (.iadd, 1) := by decide +kernel
theorem dL_law_1644 : decode cL_law 1644 = .ok (.iaload, 1) := by decide +kernel
theorem dL_law_1645 : decode cL_law 1645 = .ok (.invokevirtual 120, 3) := by decide +kernel
theorem dL_law_1648 : decode cL_law 1648 = .ok (.if_icmp .eq 726, 3) := by decide +kernel
theorem dL_law_1651 : decode cL_law 1651 = .ok (.iconst 0, 1) := by decide +kernel
theorem dL_law_1652 : decode cL_law 1652 = .ok (.ireturn, 1) := by decide +kernel
theorem dL_law_1653 : decode cL_law 1653 = .ok (.aload_n 1, 1) := by decide +kernel
theorem dL_law_1654 : decode cL_law 1654 = .ok (.aload_n 0, 1) := by decide +kernel
theorem dL_law_1655 : decode cL_law 1655 = .ok (.iload 4, 2) := by decide +kernel
theorem dL_law_1657 : decode cL_law 1657 = .ok (.iconst 1, 1) := by decide +kernel
theorem dL_law_1658 : decode cL_law 1658 = .ok (.iadd, 1) := by decide +kernel
theorem dL_law_1659 : decode cL_law 1659 = .ok (.iaload, 1) := by decide +kernel
theorem dL_law_1660 : decode cL_law 1660 = .ok (.aload_n 0, 1) := by decide +kernel
theorem dL_law_1661 : decode cL_law 1661 = .ok (.iload 4, 2) := by decide +kernel
theorem dL_law_1663 : decode cL_law 1663 = .ok (.iconst 2, 1) := by decide +kernel
theorem dL_law_1664 : decode cL_law 1664 = .ok (.iadd, 1) := by decide +kernel
theorem dL_law_1665 : decode cL_law 1665 = .ok (.iaload, 1) := by decide +kernel
theorem dL_law_1666 : decode cL_law 1666 = .ok (.ifCond .eq 7, 3) := by decide +kernel
theorem dL_law_1669 : decode cL_law 1669 = .ok (.iconst 1, 1) := by decide +kernel
theorem dL_law_1670 : decode cL_law 1670 = .ok (.goto 4, 3) := by decide +kernel
theorem dL_law_1673 : decode cL_law 1673 = .ok (.iconst 0, 1) := by decide +kernel
theorem dL_law_1674 : decode cL_law 1674 = .ok (.invokevirtual 121, 3) := by decide +kernel
theorem dL_law_1677 : decode cL_law 1677 = .ok (.aload_n 2, 1) := by decide +kernel
theorem dL_law_1678 : decode cL_law 1678 = .ok (.aload_n 0, 1) := by decide +kernel
theorem dL_law_1679 : decode cL_law 1679 = .ok (.iload 4, 2) := by decide +kernel
theorem dL_law_1681 : decode cL_law 1681 = .ok (.iconst 1, 1) := by decide +kernel
theorem dL_law_1682 : decode cL_law 1682 = .ok (.iadd, 1) := by decide +kernel
theorem dL_law_1683 : decode cL_law 1683 = .ok (.iaload, 1) := by decide +kernel
theorem dL_law_1684 : decode cL_law 1684 = .ok (.aload_n 0, 1) := by decide +kernel
theorem dL_law_1685 : decode cL_law 1685 = .ok (.iload 4, 2) := by decide +kernel
theorem dL_law_1687 : decode cL_law 1687 = .ok (.iconst 2, 1) := by decide +kernel
theorem dL_law_1688 : decode cL_law 1688 = .ok (.iadd, 1) := by decide +kernel
theorem dL_law_1689 : decode cL_law 1689 = .ok (.iaload, 1) := by decide +kernel
theorem dL_law_1690 : decode cL_law 1690 = .ok (.ifCond .eq 7, 3) := by decide +kernel
theorem dL_law_1693 : decode cL_law 1693 = .ok (.iconst 1, 1) := by decide +kernel
theorem dL_law_1694 : decode cL_law 1694 = .ok (.goto 4, 3) := by decide +kernel
theorem dL_law_1697 : decode cL_law 1697 = .ok (.iconst 0, 1) := by decide +kernel
theorem dL_law_1698 : decode cL_law 1698 = .ok (.invokevirtual 125, 3) := by decide +kernel
theorem dL_law_1701 : decode cL_law 1701 = .ok (.lcmp, 1) := by decide +kernel
theorem dL_law_1702 : decode cL_law 1702 = .ok (.ifCond .eq 672, 3) := by decide +kernel
theorem dL_law_1705 : decode cL_law 1705 = .ok (.iconst 0, 1) := by decide +kernel
theorem dL_law_1706 : decode cL_law 1706 = .ok (.ireturn, 1) := by decide +kernel
theorem dL_law_1707 : decode cL_law 1707 = .ok (.aload_n 1, 1) := by decide +kernel
theorem dL_law_1708 : decode cL_law 1708 = .ok (.aload_n 0, 1) := by decide +kernel
theorem dL_law_1709 : decode cL_law 1709 = .ok (.iload 4, 2) := by decide +kernel
theorem dL_law_1711 : decode cL_law 1711 = .ok (.iconst 1, 1) := by decide +kernel
theorem dL_law_1712 : decode cL_law 1712 = .ok (.iadd, 1) := by decide +kernel
theorem dL_law_1713 : decode cL_law 1713 = .ok (.iaload, 1) := by decide +kernel
theorem dL_law_1714 : decode cL_law 1714 = .ok (.ifCond .eq 7, 3) := by decide +kernel
theorem dL_law_1717 : decode cL_law 1717 = .ok (.iconst 1, 1) := by decide +kernel
theorem dL_law_1718 : decode cL_law 1718 = .ok (.goto 4, 3) := by decide +kernel
theorem dL_law_1721 : decode cL_law 1721 = .ok (.iconst 0, 1) := by decide +kernel
theorem dL_law_1722 : decode cL_law 1722 = .ok (.invokevirtual 126, 3) := by decide +kernel
theorem dL_law_1725 : decode cL_law 1725 = .ok (.aload_n 2, 1) := by decide +kernel
theorem dL_law_1726 : decode cL_law 1726 = .ok (.aload_n 0, 1) := by decide +kernel
theorem dL_law_1727 : decode cL_law 1727 = .ok (.iload 4, 2) := by decide +kernel
theorem dL_law_1729 : decode cL_law 1729 = .ok (.iconst 1, 1) := by decide +kernel
theorem dL_law_1730 : decode cL_law 1730 = .ok (.iadd, 1) := by decide +kernel
theorem dL_law_1731 : decode cL_law 1731 = .ok (.iaload, 1) := by decide +kernel
theorem dL_law_1732 : decode cL_law 1732 = .ok (.ifCond .eq 7, 3) := by decide +kernel
theorem dL_law_1735 : decode cL_law 1735 = .ok (.iconst 1, 1) := by decide +kernel
theorem dL_law_1736 : decode cL_law 1736 = .ok (.goto 4, 3) := by decide +kernel
theorem dL_law_1739 : decode cL_law 1739 = .ok (.iconst 0, 1) := by decide +kernel
theorem dL_law_1740 : decode cL_law 1740 = .ok (.invokevirtual 130, 3) := by decide +kernel
theorem dL_law_1743 : decode cL_law 1743 = .ok (.lcmp, 1) := by decide +kernel
theorem dL_law_1744 : decode cL_law 1744 = .ok (.ifCond .eq 630, 3) := by decide +kernel
theorem dL_law_1747 : decode cL_law 1747 = .ok (.iconst 0, 1) := by decide +kernel
theorem dL_law_1748 : decode cL_law 1748 = .ok (.ireturn, 1) := by decide +kernel
theorem dL_law_1749 : decode cL_law 1749 = .ok (.aload_n 1, 1) := by decide +kernel
theorem dL_law_1750 : decode cL_law 1750 = .ok (.invokevirtual 131, 3) := by decide +kernel
theorem dL_law_1753 : decode cL_law 1753 = .ok (.aload_n 2, 1) := by decide +kernel
theorem dL_law_1754 : decode cL_law 1754 = .ok (.invokevirtual 134, 3) := by decide +kernel
theorem dL_law_1757 : decode cL_law 1757 = .ok (.if_icmp .eq 617, 3) := by decide +kernel
theorem dL_law_1760 : decode cL_law 1760 = .ok (.iconst 0, 1) := by decide +kernel
theorem dL_law_1761 : decode cL_law 1761 = .ok (.ireturn, 1) := by decide +kernel
theorem dL_law_1762 : decode cL_law 1762 = .ok (.aload_n 1, 1) := by decide +kernel
theorem dL_law_1763 : decode cL_law 1763 = .ok (.aload_n 0, 1) := by decide +kernel
theorem dL_law_1764 : decode cL_law 1764 = .ok (.iload 4, 2) := by decide +kernel
theorem dL_law_1766 : decode cL_law 1766 = .ok (.iconst 1, 1) := by decide +kernel
theorem dL_law_1767 : decode cL_law 1767 = .ok (.iadd, 1) := by decide +kernel
theorem dL_law_1768 : decode cL_law 1768 = .ok (.iaload, 1) := by decide +kernel
theorem dL_law_1769 : decode cL_law 1769 = .ok (.invokevirtual 135, 3) := by decide +kernel
theorem dL_law_1772 : decode cL_law 1772 = .ok (.aload_n 2, 1) := by decide +kernel
theorem dL_law_1773 : decode cL_law 1773 = .ok (.aload_n 0, 1) := by decide +kernel
theorem dL_law_1774 : decode cL_law 1774 = .ok (.iload 4, 2) := by decide +kernel
theorem dL_law_1776 : decode cL_law 1776 = .ok (.iconst 1, 1) := by decide +kernel
theorem dL_law_1777 : decode cL_law 1777 = .ok (.iadd, 1) := by decide +kernel
theorem dL_law_1778 : decode cL_law 1778 = .ok (.iaload, 1) := by decide +kernel
theorem dL_law_1779 : decode cL_law 1779 = .ok (.invokevirtual 138, 3) := by decide +kernel
theorem dL_law_1782 : decode cL_law 1782 = .ok (.if_icmp .eq 592, 3) := by decide +kernel
theorem dL_law_1785 : decode cL_law 1785 = .ok (.iconst 0, 1) := by decide +kernel
theorem dL_law_1786 : decode cL_law 1786 = .ok (.ireturn, 1) := by decide +kernel
theorem dL_law_1787 : decode cL_law 1787 = .ok (.aload_n 1, 1) := by decide +kernel
theorem dL_law_1788 : decode cL_law 1788 = .ok (.aload_n 0, 1) := by decide +kernel
theorem dL_law_1789 : decode cL_law 1789 = .ok (.iload 4, 2) := by decide +kernel
theorem dL_law_1791 : decode cL_law 1791 = .ok (.iconst 1, 1) := by decide +kernel
theorem dL_law_1792 : decode cL_law 1792 = .ok (.iadd, 1) := by decide +kernel
theorem dL_law_1793 : decode cL_law 1793 = .ok (.iaload, 1) := by decide +kernel
theorem dL_law_1794 : decode cL_law 1794 = .ok (.aload_n 0, 1) := by decide +kernel
theorem dL_law_1795 : decode cL_law 1795 = .ok (.iload 4, 2) := by decide +kernel
theorem dL_law_1797 : decode cL_law 1797 = .ok (.iconst 2, 1) := by decide +kernel
theorem dL_law_1798 : decode cL_law 1798 = .ok (.iadd, 1) := by decide +kernel
theorem dL_law_1799 : decode cL_law 1799 = .ok (.iaload, 1) := by decide +kernel
theorem dL_law_1800 : decode cL_law 1800 = .ok (.ifCond .eq 7, 3) := by decide +kernel
theorem dL_law_1803 : decode cL_law 1803 = .ok (.iconst 1, 1) := by decide +kernel
theorem dL_law_1804 : decode cL_law 1804 = .ok (.goto 4, 3) := by decide +kernel
theorem dL_law_1807 : decode cL_law 1807 = .ok (.iconst 0, 1) := by decide +kernel
theorem dL_law_1808 : decode cL_law 1808 = .ok (.invokevirtual 139, 3) := by decide +kernel
theorem dL_law_1811 : decode cL_law 1811 = .ok (.aload_n 2, 1) := by decide +kernel
theorem dL_law_1812 : decode cL_law 1812 = .ok (.aload_n 0, 1) := by decide +kernel
theorem dL_law_1813 : decode cL_law 1813 = .ok (.iload 4, 2) := by decide +kernel
theorem dL_law_1815 : decode cL_law 1815 = .ok (.iconst 1, 1) := by decide +kernel
theorem dL_law_1816 : decode cL_law 1816 = .ok (.iadd, 1) := by decide +kernel
theorem dL_law_1817 : decode cL_law 1817 = .ok (.iaload, 1) := by decide +kernel
theorem dL_law_1818 : decode cL_law 1818 = .ok (.aload_n 0, 1) := by decide +kernel
theorem dL_law_1819 : decode cL_law 1819 = .ok (.iload 4, 2) := by decide +kernel
theorem dL_law_1821 : decode cL_law 1821 = .ok (.iconst 2, 1) := by decide +kernel
theorem dL_law_1822 : decode cL_law 1822 = .ok (.iadd, 1) := by decide +kernel
theorem dL_law_1823 : decode cL_law 1823 = .ok (.iaload, 1) := by decide +kernel
theorem dL_law_1824 : decode cL_law 1824 = .ok (.ifCond .eq 7, 3) := by decide +kernel
theorem dL_law_1827 : decode cL_law 1827 = .ok (.iconst 1, 1) := by decide +kernel
theorem dL_law_1828 : decode cL_law 1828 = .ok (.goto 4, 3) := by decide +kernel
theorem dL_law_1831 : decode cL_law 1831 = .ok (.iconst 0, 1) := by decide +kernel
theorem dL_law_1832 : decode cL_law 1832 = .ok (.invokevirtual 142, 3) := by decide +kernel
theorem dL_law_1835 : decode cL_law 1835 = .ok (.lcmp, 1) := by decide +kernel
theorem dL_law_1836 : decode cL_law 1836 = .ok (.ifCond .eq 538, 3) := by decide +kernel
theorem dL_law_1839 : decode cL_law 1839 = .ok (.iconst 0, 1) := by decide +kernel
theorem dL_law_1840 : decode cL_law 1840 = .ok (.ireturn, 1) := by decide +kernel
theorem dL_law_1841 : decode cL_law 1841 = .ok (.aload_n 1, 1) := by decide +kernel
theorem dL_law_1842 : decode cL_law 1842 = .ok (.aload_n 0, 1) := by decide +kernel
theorem dL_law_1843 : decode cL_law 1843 = .ok (.iload 4, 2) := by decide +kernel
theorem dL_law_1845 : decode cL_law 1845 = .ok (.iconst 1, 1) := by decide +kernel
theorem dL_law_1846 : decode cL_law 1846 = .ok (.iadd, 1) := by decide +kernel
theorem dL_law_1847 : decode cL_law 1847 = .ok (.iaload, 1) := by decide +kernel
theorem dL_law_1848 : decode cL_law 1848 = .ok (.aload_n 0, 1) := by decide +kernel
theorem dL_law_1849 : decode cL_law 1849 = .ok (.iload 4, 2) := by decide +kernel
theorem dL_law_1851 : decode cL_law 1851 = .ok (.iconst 2, 1) := by decide +kernel
theorem dL_law_1852 : decode cL_law 1852 = .ok (.iadd, 1) := by decide +kernel
theorem dL_law_1853 : decode cL_law 1853 = .ok (.iaload, 1) := by decide +kernel
theorem dL_law_1854 : decode cL_law 1854 = .ok (.invokevirtual 143, 3) := by decide +kernel
theorem dL_law_1857 : decode cL_law 1857 = .ok (.aload_n 2, 1) := by decide +kernel
theorem dL_law_1858 : decode cL_law 1858 = .ok (.aload_n 0, 1) := by decide +kernel
theorem dL_law_1859 : decode cL_law 1859 = .ok (.iload 4, 2) := by decide +kernel
theorem dL_law_1861 : decode cL_law 1861 = .ok (.iconst 1, 1) := by decide +kernel
theorem dL_law_1862 : decode cL_law 1862 = .ok (.iadd, 1) := by decide +kernel
theorem dL_law_1863 : decode cL_law 1863 = .ok (.iaload, 1) := by decide +kernel
theorem dL_law_1864 : decode cL_law 1864 = .ok (.aload_n 0, 1) := by decide +kernel
theorem dL_law_1865 : decode cL_law 1865 = .ok (.iload 4, 2) := by decide +kernel
theorem dL_law_1867 : decode cL_law 1867 = .ok (.iconst 2, 1) := by decide +kernel
theorem dL_law_1868 : decode cL_law 1868 = .ok (.iadd, 1) := by decide +kernel
theorem dL_law_1869 : decode cL_law 1869 = .ok (.iaload, 1) := by decide +kernel
theorem dL_law_1870 : decode cL_law 1870 = .ok (.invokevirtual 146, 3) := by decide +kernel
theorem dL_law_1873 : decode cL_law 1873 = .ok (.if_icmp .eq 501, 3) := by decide +kernel
theorem dL_law_1876 : decode cL_law 1876 = .ok (.iconst 0, 1) := by decide +kernel
theorem dL_law_1877 : decode cL_law 1877 = .ok (.ireturn, 1) := by decide +kernel
theorem dL_law_1878 : decode cL_law 1878 = .ok (.aload_n 1, 1) := by decide +kernel
theorem dL_law_1879 : decode cL_law 1879 = .ok (.aload_n 0, 1) := by decide +kernel
theorem dL_law_1880 : decode cL_law 1880 = .ok (.iload 4, 2) := by decide +kernel
theorem dL_law_1882 : decode cL_law 1882 = .ok (.iconst 1, 1) := by decide +kernel
theorem dL_law_1883 : decode cL_law 1883 = .ok (.iadd, 1) := by decide +kernel
theorem dL_law_1884 : decode cL_law 1884 = .ok (.iaload, 1) := by decide +kernel
theorem dL_law_1885 : decode cL_law 1885 = .ok (.invokevirtual 147, 3) := by decide +kernel
theorem dL_law_1888 : decode cL_law 1888 = .ok (.aload_n 2, 1) := by decide +kernel
theorem dL_law_1889 : decode cL_law 1889 = .ok (.aload_n 0, 1) := by decide +kernel
theorem dL_law_1890 : decode cL_law 1890 = .ok (.iload 4, 2) := by decide +kernel
theorem dL_law_1892 : decode cL_law 1892 = .ok (.iconst 1, 1) := by decide +kernel
theorem dL_law_1893 : decode cL_law 1893 = .ok (.iadd, 1) := by decide +kernel
theorem dL_law_1894 : decode cL_law 1894 = .ok (.iaload, 1) := by decide +kernel
theorem dL_law_1895 : decode cL_law 1895 = .ok (.invokevirtual 150, 3) := by decide +kernel
theorem dL_law_1898 : decode cL_law 1898 = .ok (.if_icmp .eq 476, 3) := by decide +kernel
theorem dL_law_1901 : decode cL_law 1901 = .ok (.iconst 0, 1) := by decide +kernel
theorem dL_law_1902 : decode cL_law 1902 = .ok (.ireturn, 1) := by decide +kernel
theorem dL_law_1903 : decode cL_law 1903 = .ok (.aload_n 1, 1) := by decide +kernel
theorem dL_law_1904 : decode cL_law 1904 = .ok (.aload_n 0, 1) := by decide +kernel
theorem dL_law_1905 : decode cL_law 1905 = .ok (.iload 4, 2) := by decide +kernel
theorem dL_law_1907 : decode cL_law 1907 = .ok (.iconst 1, 1) := by decide +kernel
theorem dL_law_1908 : decode cL_law 1908 = .ok (.iadd, 1) := by decide +kernel
theorem dL_law_1909 : decode cL_law 1909 = .ok (.iaload, 1) := by decide +kernel
theorem dL_law_1910 : decode cL_law 1910 = .ok (.invokevirtual 151, 3) := by decide +kernel
theorem dL_law_1913 : decode cL_law 1913 = .ok (.aload_n 2, 1) := by decide +kernel
theorem dL_law_1914 : decode cL_law 1914 = .ok (.aload_n 0, 1) := by decide +kernel
theorem dL_law_1915 : decode cL_law 1915 = .ok (.iload 4, 2) := by decide +kernel
theorem dL_law_1917 : decode cL_law 1917 = .ok (.iconst 1, 1) := by decide +kernel
theorem dL_law_1918 : decode cL_law 1918 = .ok (.iadd, 1) := by decide +kernel
theorem dL_law_1919 : decode cL_law 1919 = .ok (.iaload, 1) := by decide +kernel
theorem dL_law_1920 : decode cL_law 1920 = .ok (.invokevirtual 154, 3) := by decide +kernel
theorem dL_law_1923 : decode cL_law 1923 = .ok (.if_icmp .eq 451, 3) := by decide +kernel
theorem dL_law_1926 : decode cL_law 1926 = .ok (.iconst 0, 1) := by decide +kernel
theorem dL_law_1927 : decode cL_law 1927 = .ok (.ireturn, 1) := by decide +kernel
theorem dL_law_1928 : decode cL_law 1928 = .ok (.aload_n 1, 1) := by decide +kernel
theorem dL_law_1929 : decode cL_law 1929 = .ok (.aload_n 0, 1) := by decide +kernel
theorem dL_law_1930 : decode cL_law 1930 = .ok (.iload 4, 2) := by decide +kernel
theorem dL_law_1932 : decode cL_law 1932 = .ok (.iconst 1, 1) := by decide +kernel
theorem dL_law_1933 : decode cL_law 1933 = .ok (.iadd, 1) := by decide +kernel
theorem dL_law_1934 : decode cL_law 1934 = .ok (.iaload, 1) := by decide +kernel
theorem dL_law_1935 : decode cL_law 1935 = .ok (.invokevirtual 155, 3) := by decide +kernel
theorem dL_law_1938 : decode cL_law 1938 = .ok (.aload_n 2, 1) := by decide +kernel
theorem dL_law_1939 : decode cL_law 1939 = .ok (.aload_n 0, 1) := by decide +kernel
theorem dL_law_1940 : decode cL_law 1940 = .ok (.iload 4, 2) := by decide +kernel
theorem dL_law_1942 : decode cL_law 1942 = .ok (.iconst 1, 1) := by decide +kernel
theorem dL_law_1943 : decode cL_law 1943 = .ok (.iadd, 1) := by decide +kernel
theorem dL_law_1944 : decode cL_law 1944 = .ok (.iaload, 1) := by decide +kernel
theorem dL_law_1945 : decode cL_law 1945 = .ok (.invokevirtual 158, 3) := by decide +kernel
theorem dL_law_1948 : decode cL_law 1948 = .ok (.if_icmp .eq 426, 3) := by decide +kernel
theorem dL_law_1951 : decode cL_law 1951 = .ok (.iconst 0, 1) := by decide +kernel
theorem dL_law_1952 : decode cL_law 1952 = .ok (.ireturn, 1) := by decide +kernel
theorem dL_law_1953 : decode cL_law 1953 = .ok (.aload_n 1, 1) := by decide +kernel
theorem dL_law_1954 : decode cL_law 1954 = .ok (.aload_n 0, 1) := by decide +kernel
theorem dL_law_1955 : decode cL_law 1955 = .ok (.iload 4, 2) := by decide +kernel
theorem dL_law_1957 : decode cL_law 1957 = .ok (.iconst 1, 1) := by decide +kernel
theorem dL_law_1958 : decode cL_law 1958 = .ok (.iadd, 1) := by decide +kernel
theorem dL_law_1959 : decode cL_law 1959 = .ok (.iaload, 1) := by decide +kernel
theorem dL_law_1960 : decode cL_law 1960 = .ok (.aload_n 0, 1) := by decide +kernel
theorem dL_law_1961 : decode cL_law 1961 = .ok (.iload 4, 2) := by decide +kernel
theorem dL_law_1963 : decode cL_law 1963 = .ok (.iconst 2, 1) := by decide +kernel
theorem dL_law_1964 : decode cL_law 1964 = .ok (.iadd, 1) := by decide +kernel
theorem dL_law_1965 : decode cL_law 1965 = .ok (.iaload, 1) := by decide +kernel
theorem dL_law_1966 : decode cL_law 1966 = .ok (.aload_n 0, 1) := by decide +kernel
theorem dL_law_1967 : decode cL_law 1967 = .ok (.iload 4, 2) := by decide +kernel
theorem dL_law_1969 : decode cL_law 1969 = .ok (.iconst 3, 1) := by decide +kernel
theorem dL_law_1970 : decode cL_law 1970 = .ok (.iadd, 1) := by decide +kernel
theorem dL_law_1971 : decode cL_law 1971 = .ok (.iaload, 1) := by decide +kernel
theorem dL_law_1972 : decode cL_law 1972 = .ok (.invokevirtual 159, 3) := by decide +kernel
theorem dL_law_1975 : decode cL_law 1975 = .ok (.aload_n 2, 1) := by decide +kernel
theorem dL_law_1976 : decode cL_law 1976 = .ok (.aload_n 0, 1) := by decide +kernel
theorem dL_law_1977 : decode cL_law 1977 = .ok (.iload 4, 2) := by decide +kernel
theorem dL_law_1979 : decode cL_law 1979 = .ok (.iconst 1, 1) := by decide +kernel
theorem dL_law_1980 : decode cL_law 1980 = .ok (.iadd, 1) := by decide +kernel
theorem dL_law_1981 : decode cL_law 1981 = .ok (.iaload, 1) := by decide +kernel
theorem dL_law_1982 : decode cL_law 1982 = .ok (.aload_n 0, 1) := by decide +kernel
theorem dL_law_1983 : decode cL_law 1983 = .ok (.iload 4, 2) := by decide +kernel
theorem dL_law_1985 : decode cL_law 1985 = .ok (.iconst 2, 1) := by decide +kernel
theorem dL_law_1986 : decode cL_law 1986 = .ok (.iadd, 1) := by decide +kernel
theorem dL_law_1987 : decode cL_law 1987 = .ok (.iaload, 1) := by decide +kernel
theorem dL_law_1988 : decode cL_law 1988 = .ok (.aload_n 0, 1) := by decide +kernel
theorem dL_law_1989 : decode cL_law 1989 = .ok (.iload 4, 2) := by decide +kernel
theorem dL_law_1991 : decode cL_law 1991 = .ok (.iconst 3, 1) := by decide +kernel
theorem dL_law_1992 : decode cL_law 1992 = .ok (.iadd, 1) := by decide +kernel
theorem dL_law_1993 : decode cL_law 1993 = .ok (.iaload, 1) := by decide +kernel
section
variable {X : ab_X} {f cl sl : Nat} {σ : ab_S} {Q : Option ab_V → ab_S → Prop} {L st : List ab_V} {a b z v i j n x1 x2 x3 x4 x5 x6 x7 x8 : Int} {l0 l1 l2 l3 l4 l5 l6 : ab_V}
theorem rL_law_1611 : ab_Run X 288 1611 (f, cl, sl) L (ab_I b :: ab_I a :: st) σ Q ↔ (a = b → ab_Run X 288 2374 (f, cl, sl) L st σ Q) ∧ (¬ (a = b) → ab_Run X 288 1614 (f, cl, sl) L st σ Q) := ab_r_icmp_eq rfl kc_L_law dL_law_1611
theorem rL_law_1614 : ab_Run X 288 1614 (f, cl, sl) L st σ Q ↔ ab_Run X 288 1615 (f, cl, sl) L (ab_I 0 :: st) σ Q := ab_r_iconst (by decide) kc_L_law dL_law_1614
theorem rL_law_1615 : ab_Run X 288 1615 (f, cl, sl) L [ab_I v] σ Q ↔ (v = 0 ∨ v = 1) ∧ Q (some (ab_I v)) σ := ab_r_ireturnZ rfl kc_L_law dL_law_1615
theorem rL_law_1616 : ab_Run X 288 1616 (f, cl, sl) [l0, ab_R z, l2, l3, l4, l5, l6] st σ Q ↔ z ≠ 0 ∧ ab_Run X 288 1617 (f, cl, sl) [l0, ab_R z, l2, l3, l4, l5, l6] (ab_R z :: st) σ Q := ab_r_aload_n rfl kc_L_law dL_law_1616
theorem rL_law_1617 : ab_Run X 288 1617 (f, cl, sl) [ab_R z, l1, l2, l3, l4, l5, l6] st σ Q ↔ z ≠ 0 ∧ ab_Run X 288 1618 (f, cl, sl) [ab_R z, l1, l2, l3, l4, l5, l6] (ab_R z :: st) σ Q := ab_r_aload_n rfl kc_L_law dL_law_1617
theorem rL_law_1618 : ab_Run X 288 1618 (f, cl, sl) [l0, l1, l2, l3, ab_I z, l5, l6] st σ Q ↔ ab_Run X 288 1620 (f, cl, sl) [l0, l1, l2, l3, ab_I z, l5, l6] (ab_I z :: st) σ Q := ab_r_iload rfl kc_L_law dL_law_1618
theorem rL_law_1620 : ab_Run X 288 1620 (f, cl, sl) L st σ Q ↔ ab_Run X 288 1621 (f, cl, sl) L (ab_I 1 :: st) σ Q := ab_r_iconst (by decide) kc_L_law dL_law_1620
theorem rL_law_1621 : ab_Run X 288 1621 (f, cl, sl) L (ab_I b :: ab_I a :: st) σ Q ↔ ab_Run X 288 1622 (f, cl, sl) L (ab_I (ab_w32 (a + b)) :: st) σ Q := ab_r_iadd kc_L_law dL_law_1621
theorem rL_law_1622 : ab_Run X 288 1622 (f, cl, sl) L (ab_I i :: ab_R a :: st) σ Q ↔ (a = -1 ∧ 0 ≤ i ∧ i < X.1) ∧ ab_Run X 288 1623 (f, cl, sl) L (ab_I (X.2 i) :: st) σ Q := ab_r_ialoadX rfl kc_L_law dL_law_1622
theorem rL_law_1623 : ab_Run X 288 1623 (f, cl, sl) [ab_R z, l1, l2, l3, l4, l5, l6] st σ Q ↔ z ≠ 0 ∧ ab_Run X 288 1624 (f, cl, sl) [ab_R z, l1, l2, l3, l4, l5, l6] (ab_R z :: st) σ Q := ab_r_aload_n rfl kc_L_law dL_law_1623
theorem rL_law_1624 : ab_Run X 288 1624 (f, cl, sl) [l0, l1, l2, l3, ab_I z, l5, l6] st σ Q ↔ ab_Run X 288 1626 (f, cl, sl) [l0, l1, l2, l3, ab_I z, l5, l6] (ab_I z :: st) σ Q := ab_r_iload rfl kc_L_law dL_law_1624
theorem rL_law_1626 : ab_Run X 288 1626 (f, cl, sl) L st σ Q ↔ ab_Run X 288 1627 (f, cl, sl) L (ab_I 2 :: st) σ Q := ab_r_iconst (by decide) kc_L_law dL_law_1626
theorem rL_law_1627 : ab_Run X 288 1627 (f, cl, sl) L (ab_I b :: ab_I a :: st) σ Q ↔ ab_Run X 288 1628 (f, cl, sl) L (ab_I (ab_w32 (a + b)) :: st) σ Q := ab_r_iadd kc_L_law dL_law_1627
theorem rL_law_1628 : ab_Run X 288 1628 (f, cl, sl) L (ab_I i :: ab_R a :: st) σ Q ↔ (a = -1 ∧ 0 ≤ i ∧ i < X.1) ∧ ab_Run X 288 1629 (f, cl, sl) L (ab_I (X.2 i) :: st) σ Q := ab_r_ialoadX rfl kc_L_law dL_law_1628
theorem rL_law_1629 (h : 13 + 1 ≤ f ∧ 0 ≤ cl ∧ 0 ≤ sl) : ab_Run X 288 1629 (f, cl, sl) L (ab_I x2 :: ab_I x1 :: ab_R a :: st) σ Q ↔ ((ab_sh σ a).1 = 12 ∧ ab_cats st ≤ 8) ∧ ab_Do X 102 [ab_R a, ab_I x1, ab_I x2] σ (fun r σ' => ab_Run X 288 1632 (f, cl, sl) L (ab_psh r st) σ' Q) := ab_r_callV (w := [ab_I x2, ab_I x1]) (as := [ab_I x1, ab_I x2]) (b1 := (13, 0, 0)) 0 (Or.inl rfl) (by decide) ko_L_law qM_14_117 (by decide) rfl rfl rfl rfl rfl h (Nat.le_of_ble_eq_true rfl) kc_L_law dL_law_1629
theorem rL_law_1632 : ab_Run X 288 1632 (f, cl, sl) [l0, l1, ab_R z, l3, l4, l5, l6] st σ Q ↔ z ≠ 0 ∧ ab_Run X 288 1633 (f, cl, sl) [l0, l1, ab_R z, l3, l4, l5, l6] (ab_R z :: st) σ Q := ab_r_aload_n rfl kc_L_law dL_law_1632
theorem rL_law_1633 : ab_Run X 288 1633 (f, cl, sl) [ab_R z, l1, l2, l3, l4, l5, l6] st σ Q ↔ z ≠ 0 ∧ ab_Run X 288 1634 (f, cl, sl) [ab_R z, l1, l2, l3, l4, l5, l6] (ab_R z :: st) σ Q := ab_r_aload_n rfl kc_L_law dL_law_1633
theorem rL_law_1634 : ab_Run X 288 1634 (f, cl, sl) [l0, l1, l2, l3, ab_I z, l5, l6] st σ Q ↔ ab_Run X 288 1636 (f, cl, sl) [l0, l1, l2, l3, ab_I z, l5, l6] (ab_I z :: st) σ Q := ab_r_iload rfl kc_L_law dL_law_1634
theorem rL_law_1636 : ab_Run X 288 1636 (f, cl, sl) L st σ Q ↔ ab_Run X 288 1637 (f, cl, sl) L (ab_I 1 :: st) σ Q := ab_r_iconst (by decide) kc_L_law dL_law_1636
theorem rL_law_1637 : ab_Run X 288 1637 (f, cl, sl) L (ab_I b :: ab_I a :: st) σ Q ↔ ab_Run X 288 1638 (f, cl, sl) L (ab_I (ab_w32 (a + b)) :: st) σ Q := ab_r_iadd kc_L_law dL_law_1637
theorem rL_law_1638 : ab_Run X 288 1638 (f, cl, sl) L (ab_I i :: ab_R a :: st) σ Q ↔ (a = -1 ∧ 0 ≤ i ∧ i < X.1) ∧ ab_Run X 288 1639 (f, cl, sl) L (ab_I (X.2 i) :: st) σ Q := ab_r_ialoadX rfl kc_L_law dL_law_1638
theorem rL_law_1639 : ab_Run X 288 1639 (f, cl, sl) [ab_R z, l1, l2, l3, l4, l5, l6] st σ Q ↔ z ≠ 0 ∧ ab_Run X 288 1640 (f, cl, sl) [ab_R z, l1, l2, l3, l4, l5, l6] (ab_R z :: st) σ Q := ab_r_aload_n rfl kc_L_law dL_law_1639
theorem rL_law_1640 : ab_Run X 288 1640 (f, cl, sl) [l0, l1, l2, l3, ab_I z, l5, l6] st σ Q ↔ ab_Run X 288 1642 (f, cl, sl) [l0, l1, l2, l3, ab_I z, l5, l6] (ab_I z :: st) σ Q := ab_r_iload rfl kc_L_law dL_law_1640
theorem rL_law_1642 : ab_Run X 288 1642 (f, cl, sl) L st σ Q ↔ ab_Run X 288 1643 (f, cl, sl) L (ab_I 2 :: st) σ Q := ab_r_iconst (by decide) kc_L_law dL_law_1642
theorem rL_law_1643 : ab_Run X 288 1643 (f, cl, sl) L (ab_I b :: ab_I a :: st) σ Q ↔ ab_Run X 288 1644 (f, cl, sl) L (ab_I (ab_w32 (a + b)) :: st) σ Q := ab_r_iadd kc_L_law dL_law_1643
theorem rL_law_1644 : ab_Run X 288 1644 (f, cl, sl) L (ab_I i :: ab_R a :: st) σ Q ↔ (a = -1 ∧ 0 ≤ i ∧ i < X.1) ∧ ab_Run X 288 1645 (f, cl, sl) L (ab_I (X.2 i) :: st) σ Q := ab_r_ialoadX rfl kc_L_law dL_law_1644
theorem rL_law_1645 (h : 3 + 1 ≤ f ∧ 0 ≤ cl ∧ 0 ≤ sl) : ab_Run X 288 1645 (f, cl, sl) L (ab_I x2 :: ab_I x1 :: ab_R a :: st) σ Q ↔ ((ab_sh σ a).1 = 14 ∧ ab_cats st ≤ 8) ∧ ab_Do X 256 [ab_R a, ab_I x1, ab_I x2] σ (fun r σ' => ab_Run X 288 1648 (f, cl, sl) L (ab_psh r st) σ' Q) := ab_r_callV (w := [ab_I x2, ab_I x1]) (as := [ab_I x1, ab_I x2]) (b1 := (3, 0, 0)) 0 (Or.inl rfl) (by decide) ko_L_law qM_14_120 (by decide) rfl rfl rfl rfl rfl h (Nat.le_of_ble_eq_true rfl) kc_L_law dL_law_1645
theorem rL_law_1648 : ab_Run X 288 1648 (f, cl, sl) L (ab_I b :: ab_I a :: st) σ Q ↔ (a = b → ab_Run X 288 2374 (f, cl, sl) L st σ Q) ∧ (¬ (a = b) → ab_Run X 288 1651 (f, cl, sl) L st σ Q) := ab_r_icmp_eq rfl kc_L_law dL_law_1648
theorem rL_law_1651 : ab_Run X 288 1651 (f, cl, sl) L st σ Q ↔ ab_Run X 288 1652 (f, cl, sl) L (ab_I 0 :: st) σ Q := ab_r_iconst (by decide) kc_L_law dL_law_1651
theorem rL_law_1652 : ab_Run X 288 1652 (f, cl, sl) L [ab_I v] σ Q ↔ (v = 0 ∨ v = 1) ∧ Q (some (ab_I v)) σ := ab_r_ireturnZ rfl kc_L_law dL_law_1652
theorem rL_law_1653 : ab_Run X 288 1653 (f, cl, sl) [l0, ab_R z, l2, l3, l4, l5, l6] st σ Q ↔ z ≠ 0 ∧ ab_Run X 288 1654 (f, cl, sl) [l0, ab_R z, l2, l3, l4, l5, l6] (ab_R z :: st) σ Q := ab_r_aload_n rfl kc_L_law dL_law_1653
theorem rL_law_1654 : ab_Run X 288 1654 (f, cl, sl) [ab_R z, l1, l2, l3, l4, l5, l6] st σ Q ↔ z ≠ 0 ∧ ab_Run X 288 1655 (f, cl, sl) [ab_R z, l1, l2, l3, l4, l5, l6] (ab_R z :: st) σ Q := ab_r_aload_n rfl kc_L_law dL_law_1654
theorem rL_law_1655 : ab_Run X 288 1655 (f, cl, sl) [l0, l1, l2, l3, ab_I z, l5, l6] st σ Q ↔ ab_Run X 288 1657 (f, cl, sl) [l0, l1, l2, l3, ab_I z, l5, l6] (ab_I z :: st) σ Q := ab_r_iload rfl kc_L_law dL_law_1655
theorem rL_law_1657 : ab_Run X 288 1657 (f, cl, sl) L st σ Q ↔ ab_Run X 288 1658 (f, cl, sl) L (ab_I 1 :: st) σ Q := ab_r_iconst (by decide) kc_L_law dL_law_1657
theorem rL_law_1658 : ab_Run X 288 1658 (f, cl, sl) L (ab_I b :: ab_I a :: st) σ Q ↔ ab_Run X 288 1659 (f, cl, sl) L (ab_I (ab_w32 (a + b)) :: st) σ Q := ab_r_iadd kc_L_law dL_law_1658
theorem rL_law_1659 : ab_Run X 288 1659 (f, cl, sl) L (ab_I i :: ab_R a :: st) σ Q ↔ (a = -1 ∧ 0 ≤ i ∧ i < X.1) ∧ ab_Run X 288 1660 (f, cl, sl) L (ab_I (X.2 i) :: st) σ Q := ab_r_ialoadX rfl kc_L_law dL_law_1659
theorem rL_law_1660 : ab_Run X 288 1660 (f, cl, sl) [ab_R z, l1, l2, l3, l4, l5, l6] st σ Q ↔ z ≠ 0 ∧ ab_Run X 288 1661 (f, cl, sl) [ab_R z, l1, l2, l3, l4, l5, l6] (ab_R z :: st) σ Q := ab_r_aload_n rfl kc_L_law dL_law_1660
theorem rL_law_1661 : ab_Run X 288 1661 (f, cl, sl) [l0, l1, l2, l3, ab_I z, l5, l6] st σ Q ↔ ab_Run X 288 1663 (f, cl, sl) [l0, l1, l2, l3, ab_I z, l5, l6] (ab_I z :: st) σ Q := ab_r_iload rfl kc_L_law dL_law_1661
theorem rL_law_1663 : ab_Run X 288 1663 (f, cl, sl) L st σ Q ↔ ab_Run X 288 1664 (f, cl, sl) L (ab_I 2 :: st) σ Q := ab_r_iconst (by decide) kc_L_law dL_law_1663
theorem rL_law_1664 : ab_Run X 288 1664 (f, cl, sl) L (ab_I b :: ab_I a :: st) σ Q ↔ ab_Run X 288 1665 (f, cl, sl) L (ab_I (ab_w32 (a + b)) :: st) σ Q := ab_r_iadd kc_L_law dL_law_1664
theorem rL_law_1665 : ab_Run X 288 1665 (f, cl, sl) L (ab_I i :: ab_R a :: st) σ Q ↔ (a = -1 ∧ 0 ≤ i ∧ i < X.1) ∧ ab_Run X 288 1666 (f, cl, sl) L (ab_I (X.2 i) :: st) σ Q := ab_r_ialoadX rfl kc_L_law dL_law_1665
theorem rL_law_1666 : ab_Run X 288 1666 (f, cl, sl) L (ab_I a :: st) σ Q ↔ (a = 0 → ab_Run X 288 1673 (f, cl, sl) L st σ Q) ∧ (¬ (a = 0) → ab_Run X 288 1669 (f, cl, sl) L st σ Q) := ab_r_if_eq rfl kc_L_law dL_law_1666
theorem rL_law_1669 : ab_Run X 288 1669 (f, cl, sl) L st σ Q ↔ ab_Run X 288 1670 (f, cl, sl) L (ab_I 1 :: st) σ Q := ab_r_iconst (by decide) kc_L_law dL_law_1669
theorem rL_law_1670 : ab_Run X 288 1670 (f, cl, sl) L st σ Q ↔ ab_Run X 288 1674 (f, cl, sl) L st σ Q := ab_r_goto rfl kc_L_law dL_law_1670
theorem rL_law_1673 : ab_Run X 288 1673 (f, cl, sl) L st σ Q ↔ ab_Run X 288 1674 (f, cl, sl) L (ab_I 0 :: st) σ Q := ab_r_iconst (by decide) kc_L_law dL_law_1673
theorem rL_law_1674 (h : 1 + 1 ≤ f ∧ 0 ≤ cl ∧ 0 ≤ sl) : ab_Run X 288 1674 (f, cl, sl) L (ab_I x2 :: ab_I x1 :: ab_R a :: st) σ Q ↔ ((ab_sh σ a).1 = 12 ∧ ab_cats st ≤ 8) ∧ ab_Do X 103 [ab_R a, ab_I x1, ab_I x2] σ (fun r σ' => ab_Run X 288 1677 (f, cl, sl) L (ab_psh r st) σ' Q) := ab_r_callV (w := [ab_I x2, ab_I x1]) (as := [ab_I x1, ab_I x2]) (b1 := (1, 0, 0)) 0 (Or.inl rfl) (by decide) ko_L_law qM_14_121 (by decide) rfl rfl rfl rfl rfl h (Nat.le_of_ble_eq_true rfl) kc_L_law dL_law_1674
theorem rL_law_1677 : ab_Run X 288 1677 (f, cl, sl) [l0, l1, ab_R z, l3, l4, l5, l6] st σ Q ↔ z ≠ 0 ∧ ab_Run X 288 1678 (f, cl, sl) [l0, l1, ab_R z, l3, l4, l5, l6] (ab_R z :: st) σ Q := ab_r_aload_n rfl kc_L_law dL_law_1677
theorem rL_law_1678 : ab_Run X 288 1678 (f, cl, sl) [ab_R z, l1, l2, l3, l4, l5, l6] st σ Q ↔ z ≠ 0 ∧ ab_Run X 288 1679 (f, cl, sl) [ab_R z, l1, l2, l3, l4, l5, l6] (ab_R z :: st) σ Q := ab_r_aload_n rfl kc_L_law dL_law_1678
theorem rL_law_1679 : ab_Run X 288 1679 (f, cl, sl) [l0, l1, l2, l3, ab_I z, l5, l6] st σ Q ↔ ab_Run X 288 1681 (f, cl, sl) [l0, l1, l2, l3, ab_I z, l5, l6] (ab_I z :: st) σ Q := ab_r_iload rfl kc_L_law dL_law_1679
theorem rL_law_1681 : ab_Run X 288 1681 (f, cl, sl) L st σ Q ↔ ab_Run X 288 1682 (f, cl, sl) L (ab_I 1 :: st) σ Q := ab_r_iconst (by decide) kc_L_law dL_law_1681
theorem rL_law_1682 : ab_Run X 288 1682 (f, cl, sl) L (ab_I b :: ab_I a :: st) σ Q ↔ ab_Run X 288 1683 (f, cl, sl) L (ab_I (ab_w32 (a + b)) :: st) σ Q := ab_r_iadd kc_L_law dL_law_1682
theorem rL_law_1683 : ab_Run X 288 1683 (f, cl, sl) L (ab_I i :: ab_R a :: st) σ Q ↔ (a = -1 ∧ 0 ≤ i ∧ i < X.1) ∧ ab_Run X 288 1684 (f, cl, sl) L (ab_I (X.2 i) :: st) σ Q := ab_r_ialoadX rfl kc_L_law dL_law_1683
theorem rL_law_1684 : ab_Run X 288 1684 (f, cl, sl) [ab_R z, l1, l2, l3, l4, l5, l6] st σ Q ↔ z ≠ 0 ∧ ab_Run X 288 1685 (f, cl, sl) [ab_R z, l1, l2, l3, l4, l5, l6] (ab_R z :: st) σ Q := ab_r_aload_n rfl kc_L_law dL_law_1684
theorem rL_law_1685 : ab_Run X 288 1685 (f, cl, sl) [l0, l1, l2, l3, ab_I z, l5, l6] st σ Q ↔ ab_Run X 288 1687 (f, cl, sl) [l0, l1, l2, l3, ab_I z, l5, l6] (ab_I z :: st) σ Q := ab_r_iload rfl kc_L_law dL_law_1685
theorem rL_law_1687 : ab_Run X 288 1687 (f, cl, sl) L st σ Q ↔ ab_Run X 288 1688 (f, cl, sl) L (ab_I 2 :: st) σ Q := ab_r_iconst (by decide) kc_L_law dL_law_1687
theorem rL_law_1688 : ab_Run X 288 1688 (f, cl, sl) L (ab_I b :: ab_I a :: st) σ Q ↔ ab_Run X 288 1689 (f, cl, sl) L (ab_I (ab_w32 (a + b)) :: st) σ Q := ab_r_iadd kc_L_law dL_law_1688
theorem rL_law_1689 : ab_Run X 288 1689 (f, cl, sl) L (ab_I i :: ab_R a :: st) σ Q ↔ (a = -1 ∧ 0 ≤ i ∧ i < X.1) ∧ ab_Run X 288 1690 (f, cl, sl) L (ab_I (X.2 i) :: st) σ Q := ab_r_ialoadX rfl kc_L_law dL_law_1689
theorem rL_law_1690 : ab_Run X 288 1690 (f, cl, sl) L (ab_I a :: st) σ Q ↔ (a = 0 → ab_Run X 288 1697 (f, cl, sl) L st σ Q) ∧ (¬ (a = 0) → ab_Run X 288 1693 (f, cl, sl) L st σ Q) := ab_r_if_eq rfl kc_L_law dL_law_1690
theorem rL_law_1693 : ab_Run X 288 1693 (f, cl, sl) L st σ Q ↔ ab_Run X 288 1694 (f, cl, sl) L (ab_I 1 :: st) σ Q := ab_r_iconst (by decide) kc_L_law dL_law_1693
theorem rL_law_1694 : ab_Run X 288 1694 (f, cl, sl) L st σ Q ↔ ab_Run X 288 1698 (f, cl, sl) L st σ Q := ab_r_goto rfl kc_L_law dL_law_1694
theorem rL_law_1697 : ab_Run X 288 1697 (f, cl, sl) L st σ Q ↔ ab_Run X 288 1698 (f, cl, sl) L (ab_I 0 :: st) σ Q := ab_r_iconst (by decide) kc_L_law dL_law_1697
theorem rL_law_1698 (h : 2 + 1 ≤ f ∧ 0 ≤ cl ∧ 0 ≤ sl) : ab_Run X 288 1698 (f, cl, sl) L (ab_I x2 :: ab_I x1 :: ab_R a :: st) σ Q ↔ ((ab_sh σ a).1 = 14 ∧ ab_cats st ≤ 8) ∧ ab_Do X 258 [ab_R a, ab_I x1, ab_I x2] σ (fun r σ' => ab_Run X 288 1701 (f, cl, sl) L (ab_psh r st) σ' Q) := ab_r_callV (w := [ab_I x2, ab_I x1]) (as := [ab_I x1, ab_I x2]) (b1 := (2, 0, 0)) 0 (Or.inl rfl) (by decide) ko_L_law qM_14_125 (by decide) rfl rfl rfl rfl rfl h (Nat.le_of_ble_eq_true rfl) kc_L_law dL_law_1698
theorem rL_law_1701 : ab_Run X 288 1701 (f, cl, sl) L (ab_J b :: ab_J a :: st) σ Q ↔ ab_Run X 288 1702 (f, cl, sl) L (ab_I (if b < a then 1 else if a = b then 0 else -1) :: st) σ Q := ab_r_lcmp kc_L_law dL_law_1701
theorem rL_law_1702 : ab_Run X 288 1702 (f, cl, sl) L (ab_I a :: st) σ Q ↔ (a = 0 → ab_Run X 288 2374 (f, cl, sl) L st σ Q) ∧ (¬ (a = 0) → ab_Run X 288 1705 (f, cl, sl) L st σ Q) := ab_r_if_eq rfl kc_L_law dL_law_1702
theorem rL_law_1705 : ab_Run X 288 1705 (f, cl, sl) L st σ Q ↔ ab_Run X 288 1706 (f, cl, sl) L (ab_I 0 :: st) σ Q := ab_r_iconst (by decide) kc_L_law dL_law_1705
theorem rL_law_1706 : ab_Run X 288 1706 (f, cl, sl) L [ab_I v] σ Q ↔ (v = 0 ∨ v = 1) ∧ Q (some (ab_I v)) σ := ab_r_ireturnZ rfl kc_L_law dL_law_1706
theorem rL_law_1707 : ab_Run X 288 1707 (f, cl, sl) [l0, ab_R z, l2, l3, l4, l5, l6] st σ Q ↔ z ≠ 0 ∧ ab_Run X 288 1708 (f, cl, sl) [l0, ab_R z, l2, l3, l4, l5, l6] (ab_R z :: st) σ Q := ab_r_aload_n rfl kc_L_law dL_law_1707
theorem rL_law_1708 : ab_Run X 288 1708 (f, cl, sl) [ab_R z, l1, l2, l3, l4, l5, l6] st σ Q ↔ z ≠ 0 ∧ ab_Run X 288 1709 (f, cl, sl) [ab_R z, l1, l2, l3, l4, l5, l6] (ab_R z :: st) σ Q := ab_r_aload_n rfl kc_L_law dL_law_1708
theorem rL_law_1709 : ab_Run X 288 1709 (f, cl, sl) [l0, l1, l2, l3, ab_I z, l5, l6] st σ Q ↔ ab_Run X 288 1711 (f, cl, sl) [l0, l1, l2, l3, ab_I z, l5, l6] (ab_I z :: st) σ Q := ab_r_iload rfl kc_L_law dL_law_1709
theorem rL_law_1711 : ab_Run X 288 1711 (f, cl, sl) L st σ Q ↔ ab_Run X 288 1712 (f, cl, sl) L (ab_I 1 :: st) σ Q := ab_r_iconst (by decide) kc_L_law dL_law_1711
theorem rL_law_1712 : ab_Run X 288 1712 (f, cl, sl) L (ab_I b :: ab_I a :: st) σ Q ↔ ab_Run X 288 1713 (f, cl, sl) L (ab_I (ab_w32 (a + b)) :: st) σ Q := ab_r_iadd kc_L_law dL_law_1712
theorem rL_law_1713 : ab_Run X 288 1713 (f, cl, sl) L (ab_I i :: ab_R a :: st) σ Q ↔ (a = -1 ∧ 0 ≤ i ∧ i < X.1) ∧ ab_Run X 288 1714 (f, cl, sl) L (ab_I (X.2 i) :: st) σ Q := ab_r_ialoadX rfl kc_L_law dL_law_1713
theorem rL_law_1714 : ab_Run X 288 1714 (f, cl, sl) L (ab_I a :: st) σ Q ↔ (a = 0 → ab_Run X 288 1721 (f, cl, sl) L st σ Q) ∧ (¬ (a = 0) → ab_Run X 288 1717 (f, cl, sl) L st σ Q) := ab_r_if_eq rfl kc_L_law dL_law_1714
theorem rL_law_1717 : ab_Run X 288 1717 (f, cl, sl) L st σ Q ↔ ab_Run X 288 1718 (f, cl, sl) L (ab_I 1 :: st) σ Q := ab_r_iconst (by decide) kc_L_law dL_law_1717
theorem rL_law_1718 : ab_Run X 288 1718 (f, cl, sl) L st σ Q ↔ ab_Run X 288 1722 (f, cl, sl) L st σ Q := ab_r_goto rfl kc_L_law dL_law_1718
theorem rL_law_1721 : ab_Run X 288 1721 (f, cl, sl) L st σ Q ↔ ab_Run X 288 1722 (f, cl, sl) L (ab_I 0 :: st) σ Q := ab_r_iconst (by decide) kc_L_law dL_law_1721
theorem rL_law_1722 (h : 1 + 1 ≤ f ∧ 0 ≤ cl ∧ 0 ≤ sl) : ab_Run X 288 1722 (f, cl, sl) L (ab_I x1 :: ab_R a :: st) σ Q ↔ ((ab_sh σ a).1 = 12 ∧ ab_cats st ≤ 8) ∧ ab_Do X 104 [ab_R a, ab_I x1] σ (fun r σ' => ab_Run X 288 1725 (f, cl, sl) L (ab_psh r st) σ' Q) := ab_r_callV (w := [ab_I x1]) (as := [ab_I x1]) (b1 := (1, 0, 0)) 0 (Or.inl rfl) (by decide) ko_L_law qM_14_126 (by decide) rfl rfl rfl rfl rfl h (Nat.le_of_ble_eq_true rfl) kc_L_law dL_law_1722
theorem rL_law_1725 : ab_Run X 288 1725 (f, cl, sl) [l0, l1, ab_R z, l3, l4, l5, l6] st σ Q ↔ z ≠ 0 ∧ ab_Run X 288 1726 (f, cl, sl) [l0, l1, ab_R z, l3, l4, l5, l6] (ab_R z :: st) σ Q := ab_r_aload_n rfl kc_L_law dL_law_1725
theorem rL_law_1726 : ab_Run X 288 1726 (f, cl, sl) [ab_R z, l1, l2, l3, l4, l5, l6] st σ Q ↔ z ≠ 0 ∧ ab_Run X 288 1727 (f, cl, sl) [ab_R z, l1, l2, l3, l4, l5, l6] (ab_R z :: st) σ Q := ab_r_aload_n rfl kc_L_law dL_law_1726
theorem rL_law_1727 : ab_Run X 288 1727 (f, cl, sl) [l0, l1, l2, l3, ab_I z, l5, l6] st σ Q ↔ ab_Run X 288 1729 (f, cl, sl) [l0, l1, l2, l3, ab_I z, l5, l6] (ab_I z :: st) σ Q := ab_r_iload rfl kc_L_law dL_law_1727
theorem rL_law_1729 : ab_Run X 288 1729 (f, cl, sl) L st σ Q ↔ ab_Run X 288 1730 (f, cl, sl) L (ab_I 1 :: st) σ Q := ab_r_iconst (by decide) kc_L_law dL_law_1729
theorem rL_law_1730 : ab_Run X 288 1730 (f, cl, sl) L (ab_I b :: ab_I a :: st) σ Q ↔ ab_Run X 288 1731 (f, cl, sl) L (ab_I (ab_w32 (a + b)) :: st) σ Q := ab_r_iadd kc_L_law dL_law_1730
theorem rL_law_1731 : ab_Run X 288 1731 (f, cl, sl) L (ab_I i :: ab_R a :: st) σ Q ↔ (a = -1 ∧ 0 ≤ i ∧ i < X.1) ∧ ab_Run X 288 1732 (f, cl, sl) L (ab_I (X.2 i) :: st) σ Q := ab_r_ialoadX rfl kc_L_law dL_law_1731
theorem rL_law_1732 : ab_Run X 288 1732 (f, cl, sl) L (ab_I a :: st) σ Q ↔ (a = 0 → ab_Run X 288 1739 (f, cl, sl) L st σ Q) ∧ (¬ (a = 0) → ab_Run X 288 1735 (f, cl, sl) L st σ Q) := ab_r_if_eq rfl kc_L_law dL_law_1732
theorem rL_law_1735 : ab_Run X 288 1735 (f, cl, sl) L st σ Q ↔ ab_Run X 288 1736 (f, cl, sl) L (ab_I 1 :: st) σ Q := ab_r_iconst (by decide) kc_L_law dL_law_1735
theorem rL_law_1736 : ab_Run X 288 1736 (f, cl, sl) L st σ Q ↔ ab_Run X 288 1740 (f, cl, sl) L st σ Q := ab_r_goto rfl kc_L_law dL_law_1736
theorem rL_law_1739 : ab_Run X 288 1739 (f, cl, sl) L st σ Q ↔ ab_Run X 288 1740 (f, cl, sl) L (ab_I 0 :: st) σ Q := ab_r_iconst (by decide) kc_L_law dL_law_1739
theorem rL_law_1740 (h : 2 + 1 ≤ f ∧ 0 ≤ cl ∧ 0 ≤ sl) : ab_Run X 288 1740 (f, cl, sl) L (ab_I x1 :: ab_R a :: st) σ Q ↔ ((ab_sh σ a).1 = 14 ∧ ab_cats st ≤ 8) ∧ ab_Do X 259 [ab_R a, ab_I x1] σ (fun r σ' => ab_Run X 288 1743 (f, cl, sl) L (ab_psh r st) σ' Q) := ab_r_callV (w := [ab_I x1]) (as := [ab_I x1]) (b1 := (2, 0, 0)) 0 (Or.inl rfl) (by decide) ko_L_law qM_14_130 (by decide) rfl rfl rfl rfl rfl h (Nat.le_of_ble_eq_true rfl) kc_L_law dL_law_1740
theorem rL_law_1743 : ab_Run X 288 1743 (f, cl, sl) L (ab_J b :: ab_J a :: st) σ Q ↔ ab_Run X 288 1744 (f, cl, sl) L (ab_I (if b < a then 1 else if a = b then 0 else -1) :: st) σ Q := ab_r_lcmp kc_L_law dL_law_1743
theorem rL_law_1744 : ab_Run X 288 1744 (f, cl, sl) L (ab_I a :: st) σ Q ↔ (a = 0 → ab_Run X 288 2374 (f, cl, sl) L st σ Q) ∧ (¬ (a = 0) → ab_Run X 288 1747 (f, cl, sl) L st σ Q) := ab_r_if_eq rfl kc_L_law dL_law_1744
theorem rL_law_1747 : ab_Run X 288 1747 (f, cl, sl) L st σ Q ↔ ab_Run X 288 1748 (f, cl, sl) L (ab_I 0 :: st) σ Q := ab_r_iconst (by decide) kc_L_law dL_law_1747
theorem rL_law_1748 : ab_Run X 288 1748 (f, cl, sl) L [ab_I v] σ Q ↔ (v = 0 ∨ v = 1) ∧ Q (some (ab_I v)) σ := ab_r_ireturnZ rfl kc_L_law dL_law_1748
theorem rL_law_1749 : ab_Run X 288 1749 (f, cl, sl) [l0, ab_R z, l2, l3, l4, l5, l6] st σ Q ↔ z ≠ 0 ∧ ab_Run X 288 1750 (f, cl, sl) [l0, ab_R z, l2, l3, l4, l5, l6] (ab_R z :: st) σ Q := ab_r_aload_n rfl kc_L_law dL_law_1749
theorem rL_law_1750 (h : 1 + 1 ≤ f ∧ 0 ≤ cl ∧ 0 ≤ sl) : ab_Run X 288 1750 (f, cl, sl) L (ab_R a :: st) σ Q ↔ ((ab_sh σ a).1 = 12 ∧ ab_cats st ≤ 8) ∧ ab_Do X 105 [ab_R a] σ (fun r σ' => ab_Run X 288 1753 (f, cl, sl) L (ab_psh r st) σ' Q) := ab_r_callV (w := []) (as := []) (b1 := (1, 0, 0)) 0 (Or.inl rfl) (by decide) ko_L_law qM_14_131 (by decide) rfl rfl rfl rfl rfl h (Nat.le_of_ble_eq_true rfl) kc_L_law dL_law_1750
theorem rL_law_1753 : ab_Run X 288 1753 (f, cl, sl) [l0, l1, ab_R z, l3, l4, l5, l6] st σ Q ↔ z ≠ 0 ∧ ab_Run X 288 1754 (f, cl, sl) [l0, l1, ab_R z, l3, l4, l5, l6] (ab_R z :: st) σ Q := ab_r_aload_n rfl kc_L_law dL_law_1753
theorem rL_law_1754 (h : 2 + 1 ≤ f ∧ 0 ≤ cl ∧ 0 ≤ sl) : ab_Run X 288 1754 (f, cl, sl) L (ab_R a :: st) σ Q ↔ ((ab_sh σ a).1 = 14 ∧ ab_cats st ≤ 8) ∧ ab_Do X 260 [ab_R a] σ (fun r σ' => ab_Run X 288 1757 (f, cl, sl) L (ab_psh r st) σ' Q) := ab_r_callV (w := []) (as := []) (b1 := (2, 0, 0)) 0 (Or.inl rfl) (by decide) ko_L_law qM_14_134 (by decide) rfl rfl rfl rfl rfl h (Nat.le_of_ble_eq_true rfl) kc_L_law dL_law_1754
theorem rL_law_1757 : ab_Run X 288 1757 (f, cl, sl) L (ab_I b :: ab_I a :: st) σ Q ↔ (a = b → ab_Run X 288 2374 (f, cl, sl) L st σ Q) ∧ (¬ (a = b) → ab_Run X 288 1760 (f, cl, sl) L st σ Q) := ab_r_icmp_eq rfl kc_L_law dL_law_1757
theorem rL_law_1760 : ab_Run X 288 1760 (f, cl, sl) L st σ Q ↔ ab_Run X 288 1761 (f, cl, sl) L (ab_I 0 :: st) σ Q := ab_r_iconst (by decide) kc_L_law dL_law_1760
theorem rL_law_1761 : ab_Run X 288 1761 (f, cl, sl) L [ab_I v] σ Q ↔ (v = 0 ∨ v = 1) ∧ Q (some (ab_I v)) σ := ab_r_ireturnZ rfl kc_L_law dL_law_1761
theorem rL_law_1762 : ab_Run X 288 1762 (f, cl, sl) [l0, ab_R z, l2, l3, l4, l5, l6] st σ Q ↔ z ≠ 0 ∧ ab_Run X 288 1763 (f, cl, sl) [l0, ab_R z, l2, l3, l4, l5, l6] (ab_R z :: st) σ Q := ab_r_aload_n rfl kc_L_law dL_law_1762
theorem rL_law_1763 : ab_Run X 288 1763 (f, cl, sl) [ab_R z, l1, l2, l3, l4, l5, l6] st σ Q ↔ z ≠ 0 ∧ ab_Run X 288 1764 (f, cl, sl) [ab_R z, l1, l2, l3, l4, l5, l6] (ab_R z :: st) σ Q := ab_r_aload_n rfl kc_L_law dL_law_1763
theorem rL_law_1764 : ab_Run X 288 1764 (f, cl, sl) [l0, l1, l2, l3, ab_I z, l5, l6] st σ Q ↔ ab_Run X 288 1766 (f, cl, sl) [l0, l1, l2, l3, ab_I z, l5, l6] (ab_I z :: st) σ Q := ab_r_iload rfl kc_L_law dL_law_1764
theorem rL_law_1766 : ab_Run X 288 1766 (f, cl, sl) L st σ Q ↔ ab_Run X 288 1767 (f, cl, sl) L (ab_I 1 :: st) σ Q := ab_r_iconst (by decide) kc_L_law dL_law_1766
theorem rL_law_1767 : ab_Run X 288 1767 (f, cl, sl) L (ab_I b :: ab_I a :: st) σ Q ↔ ab_Run X 288 1768 (f, cl, sl) L (ab_I (ab_w32 (a + b)) :: st) σ Q := ab_r_iadd kc_L_law dL_law_1767
theorem rL_law_1768 : ab_Run X 288 1768 (f, cl, sl) L (ab_I i :: ab_R a :: st) σ Q ↔ (a = -1 ∧ 0 ≤ i ∧ i < X.1) ∧ ab_Run X 288 1769 (f, cl, sl) L (ab_I (X.2 i) :: st) σ Q := ab_r_ialoadX rfl kc_L_law dL_law_1768
theorem rL_law_1769 (h : 1 + 1 ≤ f ∧ 0 ≤ cl ∧ 0 ≤ sl) : ab_Run X 288 1769 (f, cl, sl) L (ab_I x1 :: ab_R a :: st) σ Q ↔ ((ab_sh σ a).1 = 12 ∧ ab_cats st ≤ 8) ∧ ab_Do X 106 [ab_R a, ab_I x1] σ (fun r σ' => ab_Run X 288 1772 (f, cl, sl) L (ab_psh r st) σ' Q) := ab_r_callV (w := [ab_I x1]) (as := [ab_I x1]) (b1 := (1, 0, 0)) 0 (Or.inl rfl) (by decide) ko_L_law qM_14_135 (by decide) rfl rfl rfl rfl rfl h (Nat.le_of_ble_eq_true rfl) kc_L_law dL_law_1769
theorem rL_law_1772 : ab_Run X 288 1772 (f, cl, sl) [l0, l1, ab_R z, l3, l4, l5, l6] st σ Q ↔ z ≠ 0 ∧ ab_Run X 288 1773 (f, cl, sl) [l0, l1, ab_R z, l3, l4, l5, l6] (ab_R z :: st) σ Q := ab_r_aload_n rfl kc_L_law dL_law_1772
theorem rL_law_1773 : ab_Run X 288 1773 (f, cl, sl) [ab_R z, l1, l2, l3, l4, l5, l6] st σ Q ↔ z ≠ 0 ∧ ab_Run X 288 1774 (f, cl, sl) [ab_R z, l1, l2, l3, l4, l5, l6] (ab_R z :: st) σ Q := ab_r_aload_n rfl kc_L_law dL_law_1773
theorem rL_law_1774 : ab_Run X 288 1774 (f, cl, sl) [l0, l1, l2, l3, ab_I z, l5, l6] st σ Q ↔ ab_Run X 288 1776 (f, cl, sl) [l0, l1, l2, l3, ab_I z, l5, l6] (ab_I z :: st) σ Q := ab_r_iload rfl kc_L_law dL_law_1774
theorem rL_law_1776 : ab_Run X 288 1776 (f, cl, sl) L st σ Q ↔ ab_Run X 288 1777 (f, cl, sl) L (ab_I 1 :: st) σ Q := ab_r_iconst (by decide) kc_L_law dL_law_1776
theorem rL_law_1777 : ab_Run X 288 1777 (f, cl, sl) L (ab_I b :: ab_I a :: st) σ Q ↔ ab_Run X 288 1778 (f, cl, sl) L (ab_I (ab_w32 (a + b)) :: st) σ Q := ab_r_iadd kc_L_law dL_law_1777
theorem rL_law_1778 : ab_Run X 288 1778 (f, cl, sl) L (ab_I i :: ab_R a :: st) σ Q ↔ (a = -1 ∧ 0 ≤ i ∧ i < X.1) ∧ ab_Run X 288 1779 (f, cl, sl) L (ab_I (X.2 i) :: st) σ Q := ab_r_ialoadX rfl kc_L_law dL_law_1778
theorem rL_law_1779 (h : 1 + 1 ≤ f ∧ 0 ≤ cl ∧ 0 ≤ sl) : ab_Run X 288 1779 (f, cl, sl) L (ab_I x1 :: ab_R a :: st) σ Q ↔ ((ab_sh σ a).1 = 14 ∧ ab_cats st ≤ 8) ∧ ab_Do X 261 [ab_R a, ab_I x1] σ (fun r σ' => ab_Run X 288 1782 (f, cl, sl) L (ab_psh r st) σ' Q) := ab_r_callV (w := [ab_I x1]) (as := [ab_I x1]) (b1 := (1, 0, 0)) 0 (Or.inl rfl) (by decide) ko_L_law qM_14_138 (by decide) rfl rfl rfl rfl rfl h (Nat.le_of_ble_eq_true rfl) kc_L_law dL_law_1779
theorem rL_law_1782 : ab_Run X 288 1782 (f, cl, sl) L (ab_I b :: ab_I a :: st) σ Q ↔ (a = b → ab_Run X 288 2374 (f, cl, sl) L st σ Q) ∧ (¬ (a = b) → ab_Run X 288 1785 (f, cl, sl) L st σ Q) := ab_r_icmp_eq rfl kc_L_law dL_law_1782
theorem rL_law_1785 : ab_Run X 288 1785 (f, cl, sl) L st σ Q ↔ ab_Run X 288 1786 (f, cl, sl) L (ab_I 0 :: st) σ Q := ab_r_iconst (by decide) kc_L_law dL_law_1785
theorem rL_law_1786 : ab_Run X 288 1786 (f, cl, sl) L [ab_I v] σ Q ↔ (v = 0 ∨ v = 1) ∧ Q (some (ab_I v)) σ := ab_r_ireturnZ rfl kc_L_law dL_law_1786
theorem rL_law_1787 : ab_Run X 288 1787 (f, cl, sl) [l0, ab_R z, l2, l3, l4, l5, l6] st σ Q ↔ z ≠ 0 ∧ ab_Run X 288 1788 (f, cl, sl) [l0, ab_R z, l2, l3, l4, l5, l6] (ab_R z :: st) σ Q := ab_r_aload_n rfl kc_L_law dL_law_1787
theorem rL_law_1788 : ab_Run X 288 1788 (f, cl, sl) [ab_R z, l1, l2, l3, l4, l5, l6] st σ Q ↔ z ≠ 0 ∧ ab_Run X 288 1789 (f, cl, sl) [ab_R z, l1, l2, l3, l4, l5, l6] (ab_R z :: st) σ Q := ab_r_aload_n rfl kc_L_law dL_law_1788
theorem rL_law_1789 : ab_Run X 288 1789 (f, cl, sl) [l0, l1, l2, l3, ab_I z, l5, l6] st σ Q ↔ ab_Run X 288 1791 (f, cl, sl) [l0, l1, l2, l3, ab_I z, l5, l6] (ab_I z :: st) σ Q := ab_r_iload rfl kc_L_law dL_law_1789
theorem rL_law_1791 : ab_Run X 288 1791 (f, cl, sl) L st σ Q ↔ ab_Run X 288 1792 (f, cl, sl) L (ab_I 1 :: st) σ Q := ab_r_iconst (by decide) kc_L_law dL_law_1791
theorem rL_law_1792 : ab_Run X 288 1792 (f, cl, sl) L (ab_I b :: ab_I a :: st) σ Q ↔ ab_Run X 288 1793 (f, cl, sl) L (ab_I (ab_w32 (a + b)) :: st) σ Q := ab_r_iadd kc_L_law dL_law_1792
theorem rL_law_1793 : ab_Run X 288 1793 (f, cl, sl) L (ab_I i :: ab_R a :: st) σ Q ↔ (a = -1 ∧ 0 ≤ i ∧ i < X.1) ∧ ab_Run X 288 1794 (f, cl, sl) L (ab_I (X.2 i) :: st) σ Q := ab_r_ialoadX rfl kc_L_law dL_law_1793
theorem rL_law_1794 : ab_Run X 288 1794 (f, cl, sl) [ab_R z, l1, l2, l3, l4, l5, l6] st σ Q ↔ z ≠ 0 ∧ ab_Run X 288 1795 (f, cl, sl) [ab_R z, l1, l2, l3, l4, l5, l6] (ab_R z :: st) σ Q := ab_r_aload_n rfl kc_L_law dL_law_1794
theorem rL_law_1795 : ab_Run X 288 1795 (f, cl, sl) [l0, l1, l2, l3, ab_I z, l5, l6] st σ Q ↔ ab_Run X 288 1797 (f, cl, sl) [l0, l1, l2, l3, ab_I z, l5, l6] (ab_I z :: st) σ Q := ab_r_iload rfl kc_L_law dL_law_1795
theorem rL_law_1797 : ab_Run X 288 1797 (f, cl, sl) L st σ Q ↔ ab_Run X 288 1798 (f, cl, sl) L (ab_I 2 :: st) σ Q := ab_r_iconst (by decide) kc_L_law dL_law_1797
theorem rL_law_1798 : ab_Run X 288 1798 (f, cl, sl) L (ab_I b :: ab_I a :: st) σ Q ↔ ab_Run X 288 1799 (f, cl, sl) L (ab_I (ab_w32 (a + b)) :: st) σ Q := ab_r_iadd kc_L_law dL_law_1798
theorem rL_law_1799 : ab_Run X 288 1799 (f, cl, sl) L (ab_I i :: ab_R a :: st) σ Q ↔ (a = -1 ∧ 0 ≤ i ∧ i < X.1) ∧ ab_Run X 288 1800 (f, cl, sl) L (ab_I (X.2 i) :: st) σ Q := ab_r_ialoadX rfl kc_L_law dL_law_1799
theorem rL_law_1800 : ab_Run X 288 1800 (f, cl, sl) L (ab_I a :: st) σ Q ↔ (a = 0 → ab_Run X 288 1807 (f, cl, sl) L st σ Q) ∧ (¬ (a = 0) → ab_Run X 288 1803 (f, cl, sl) L st σ Q) := ab_r_if_eq rfl kc_L_law dL_law_1800
theorem rL_law_1803 : ab_Run X 288 1803 (f, cl, sl) L st σ Q ↔ ab_Run X 288 1804 (f, cl, sl) L (ab_I 1 :: st) σ Q := ab_r_iconst (by decide) kc_L_law dL_law_1803
theorem rL_law_1804 : ab_Run X 288 1804 (f, cl, sl) L st σ Q ↔ ab_Run X 288 1808 (f, cl, sl) L st σ Q := ab_r_goto rfl kc_L_law dL_law_1804
theorem rL_law_1807 : ab_Run X 288 1807 (f, cl, sl) L st σ Q ↔ ab_Run X 288 1808 (f, cl, sl) L (ab_I 0 :: st) σ Q := ab_r_iconst (by decide) kc_L_law dL_law_1807
theorem rL_law_1808 (h : 1 + 1 ≤ f ∧ 0 ≤ cl ∧ 0 ≤ sl) : ab_Run X 288 1808 (f, cl, sl) L (ab_I x2 :: ab_I x1 :: ab_R a :: st) σ Q ↔ ((ab_sh σ a).1 = 12 ∧ ab_cats st ≤ 8) ∧ ab_Do X 107 [ab_R a, ab_I x1, ab_I x2] σ (fun r σ' => ab_Run X 288 1811 (f, cl, sl) L (ab_psh r st) σ' Q) := ab_r_callV (w := [ab_I x2, ab_I x1]) (as := [ab_I x1, ab_I x2]) (b1 := (1, 0, 0)) 0 (Or.inl rfl) (by decide) ko_L_law qM_14_139 (by decide) rfl rfl rfl rfl rfl h (Nat.le_of_ble_eq_true rfl) kc_L_law dL_law_1808
theorem rL_law_1811 : ab_Run X 288 1811 (f, cl, sl) [l0, l1, ab_R z, l3, l4, l5, l6] st σ Q ↔ z ≠ 0 ∧ ab_Run X 288 1812 (f, cl, sl) [l0, l1, ab_R z, l3, l4, l5, l6] (ab_R z :: st) σ Q := ab_r_aload_n rfl kc_L_law dL_law_1811
theorem rL_law_1812 : ab_Run X 288 1812 (f, cl, sl) [ab_R z, l1, l2, l3, l4, l5, l6] st σ Q ↔ z ≠ 0 ∧ ab_Run X 288 1813 (f, cl, sl) [ab_R z, l1, l2, l3, l4, l5, l6] (ab_R z :: st) σ Q := ab_r_aload_n rfl kc_L_law dL_law_1812
theorem rL_law_1813 : ab_Run X 288 1813 (f, cl, sl) [l0, l1, l2, l3, ab_I z, l5, l6] st σ Q ↔ ab_Run X 288 1815 (f, cl, sl) [l0, l1, l2, l3, ab_I z, l5, l6] (ab_I z :: st) σ Q := ab_r_iload rfl kc_L_law dL_law_1813
theorem rL_law_1815 : ab_Run X 288 1815 (f, cl, sl) L st σ Q ↔ ab_Run X 288 1816 (f, cl, sl) L (ab_I 1 :: st) σ Q := ab_r_iconst (by decide) kc_L_law dL_law_1815
theorem rL_law_1816 : ab_Run X 288 1816 (f, cl, sl) L (ab_I b :: ab_I a :: st) σ Q ↔ ab_Run X 288 1817 (f, cl, sl) L (ab_I (ab_w32 (a + b)) :: st) σ Q := ab_r_iadd kc_L_law dL_law_1816
theorem rL_law_1817 : ab_Run X 288 1817 (f, cl, sl) L (ab_I i :: ab_R a :: st) σ Q ↔ (a = -1 ∧ 0 ≤ i ∧ i < X.1) ∧ ab_Run X 288 1818 (f, cl, sl) L (ab_I (X.2 i) :: st) σ Q := ab_r_ialoadX rfl kc_L_law dL_law_1817
theorem rL_law_1818 : ab_Run X 288 1818 (f, cl, sl) [ab_R z, l1, l2, l3, l4, l5, l6] st σ Q ↔ z ≠ 0 ∧ ab_Run X 288 1819 (f, cl, sl) [ab_R z, l1, l2, l3, l4, l5, l6] (ab_R z :: st) σ Q := ab_r_aload_n rfl kc_L_law dL_law_1818
theorem rL_law_1819 : ab_Run X 288 1819 (f, cl, sl) [l0, l1, l2, l3, ab_I z, l5, l6] st σ Q ↔ ab_Run X 288 1821 (f, cl, sl) [l0, l1, l2, l3, ab_I z, l5, l6] (ab_I z :: st) σ Q := ab_r_iload rfl kc_L_law dL_law_1819
theorem rL_law_1821 : ab_Run X 288 1821 (f, cl, sl) L st σ Q ↔ ab_Run X 288 1822 (f, cl, sl) L (ab_I 2 :: st) σ Q := ab_r_iconst (by decide) kc_L_law dL_law_1821
theorem rL_law_1822 : ab_Run X 288 1822 (f, cl, sl) L (ab_I b :: ab_I a :: st) σ Q ↔ ab_Run X 288 1823 (f, cl, sl) L (ab_I (ab_w32 (a + b)) :: st) σ Q := ab_r_iadd kc_L_law dL_law_1822
theorem rL_law_1823 : ab_Run X 288 1823 (f, cl, sl) L (ab_I i :: ab_R a :: st) σ Q ↔ (a = -1 ∧ 0 ≤ i ∧ i < X.1) ∧ ab_Run X 288 1824 (f, cl, sl) L (ab_I (X.2 i) :: st) σ Q := ab_r_ialoadX rfl kc_L_law dL_law_1823
theorem rL_law_1824 : ab_Run X 288 1824 (f, cl, sl) L (ab_I a :: st) σ Q ↔ (a = 0 → ab_Run X 288 1831 (f, cl, sl) L st σ Q) ∧ (¬ (a = 0) → ab_Run X 288 1827 (f, cl, sl) L st σ Q) := ab_r_if_eq rfl kc_L_law dL_law_1824
theorem rL_law_1827 : ab_Run X 288 1827 (f, cl, sl) L st σ Q ↔ ab_Run X 288 1828 (f, cl, sl) L (ab_I 1 :: st) σ Q := ab_r_iconst (by decide) kc_L_law dL_law_1827
theorem rL_law_1828 : ab_Run X 288 1828 (f, cl, sl) L st σ Q ↔ ab_Run X 288 1832 (f, cl, sl) L st σ Q := ab_r_goto rfl kc_L_law dL_law_1828
theorem rL_law_1831 : ab_Run X 288 1831 (f, cl, sl) L st σ Q ↔ ab_Run X 288 1832 (f, cl, sl) L (ab_I 0 :: st) σ Q := ab_r_iconst (by decide) kc_L_law dL_law_1831
theorem rL_law_1832 (h : 2 + 1 ≤ f ∧ 0 ≤ cl ∧ 0 ≤ sl) : ab_Run X 288 1832 (f, cl, sl) L (ab_I x2 :: ab_I x1 :: ab_R a :: st) σ Q ↔ ((ab_sh σ a).1 = 14 ∧ ab_cats st ≤ 8) ∧ ab_Do X 263 [ab_R a, ab_I x1, ab_I x2] σ (fun r σ' => ab_Run X 288 1835 (f, cl, sl) L (ab_psh r st) σ' Q) := ab_r_callV (w := [ab_I x2, ab_I x1]) (as := [ab_I x1, ab_I x2]) (b1 := (2, 0, 0)) 0 (Or.inl rfl) (by decide) ko_L_law qM_14_142 (by decide) rfl rfl rfl rfl rfl h (Nat.le_of_ble_eq_true rfl) kc_L_law dL_law_1832
theorem rL_law_1835 : ab_Run X 288 1835 (f, cl, sl) L (ab_J b :: ab_J a :: st) σ Q ↔ ab_Run X 288 1836 (f, cl, sl) L (ab_I (if b < a then 1 else if a = b then 0 else -1) :: st) σ Q := ab_r_lcmp kc_L_law dL_law_1835
theorem rL_law_1836 : ab_Run X 288 1836 (f, cl, sl) L (ab_I a :: st) σ Q ↔ (a = 0 → ab_Run X 288 2374 (f, cl, sl) L st σ Q) ∧ (¬ (a = 0) → ab_Run X 288 1839 (f, cl, sl) L st σ Q) := ab_r_if_eq rfl kc_L_law dL_law_1836
theorem rL_law_1839 : ab_Run X 288 1839 (f, cl, sl) L st σ Q ↔ ab_Run X 288 1840 (f, cl, sl) L (ab_I 0 :: st) σ Q := ab_r_iconst (by decide) kc_L_law dL_law_1839
theorem rL_law_1840 : ab_Run X 288 1840 (f, cl, sl) L [ab_I v] σ Q ↔ (v = 0 ∨ v = 1) ∧ Q (some (ab_I v)) σ := ab_r_ireturnZ rfl kc_L_law dL_law_1840
theorem rL_law_1841 : ab_Run X 288 1841 (f, cl, sl) [l0, ab_R z, l2, l3, l4, l5, l6] st σ Q ↔ z ≠ 0 ∧ ab_Run X 288 1842 (f, cl, sl) [l0, ab_R z, l2, l3, l4, l5, l6] (ab_R z :: st) σ Q := ab_r_aload_n rfl kc_L_law dL_law_1841
theorem rL_law_1842 : ab_Run X 288 1842 (f, cl, sl) [ab_R z, l1, l2, l3, l4, l5, l6] st σ Q ↔ z ≠ 0 ∧ ab_Run X 288 1843 (f, cl, sl) [ab_R z, l1, l2, l3, l4, l5, l6] (ab_R z :: st) σ Q := ab_r_aload_n rfl kc_L_law dL_law_1842
theorem rL_law_1843 : ab_Run X 288 1843 (f, cl, sl) [l0, l1, l2, l3, ab_I z, l5, l6] st σ Q ↔ ab_Run X 288 1845 (f, cl, sl) [l0, l1, l2, l3, ab_I z, l5, l6] (ab_I z :: st) σ Q := ab_r_iload rfl kc_L_law dL_law_1843
theorem rL_law_1845 : ab_Run X 288 1845 (f, cl, sl) L st σ Q ↔ ab_Run X 288 1846 (f, cl, sl) L (ab_I 1 :: st) σ Q := ab_r_iconst (by decide) kc_L_law dL_law_1845
theorem rL_law_1846 : ab_Run X 288 1846 (f, cl, sl) L (ab_I b :: ab_I a :: st) σ Q ↔ ab_Run X 288 1847 (f, cl, sl) L (ab_I (ab_w32 (a + b)) :: st) σ Q := ab_r_iadd kc_L_law dL_law_1846
theorem rL_law_1847 : ab_Run X 288 1847 (f, cl, sl) L (ab_I i :: ab_R a :: st) σ Q ↔ (a = -1 ∧ 0 ≤ i ∧ i < X.1) ∧ ab_Run X 288 1848 (f, cl, sl) L (ab_I (X.2 i) :: st) σ Q := ab_r_ialoadX rfl kc_L_law dL_law_1847
theorem rL_law_1848 : ab_Run X 288 1848 (f, cl, sl) [ab_R z, l1, l2, l3, l4, l5, l6] st σ Q ↔ z ≠ 0 ∧ ab_Run X 288 1849 (f, cl, sl) [ab_R z, l1, l2, l3, l4, l5, l6] (ab_R z :: st) σ Q := ab_r_aload_n rfl kc_L_law dL_law_1848
theorem rL_law_1849 : ab_Run X 288 1849 (f, cl, sl) [l0, l1, l2, l3, ab_I z, l5, l6] st σ Q ↔ ab_Run X 288 1851 (f, cl, sl) [l0, l1, l2, l3, ab_I z, l5, l6] (ab_I z :: st) σ Q := ab_r_iload rfl kc_L_law dL_law_1849
theorem rL_law_1851 : ab_Run X 288 1851 (f, cl, sl) L st σ Q ↔ ab_Run X 288 1852 (f, cl, sl) L (ab_I 2 :: st) σ Q := ab_r_iconst (by decide) kc_L_law dL_law_1851
theorem rL_law_1852 : ab_Run X 288 1852 (f, cl, sl) L (ab_I b :: ab_I a :: st) σ Q ↔ ab_Run X 288 1853 (f, cl, sl) L (ab_I (ab_w32 (a + b)) :: st) σ Q := ab_r_iadd kc_L_law dL_law_1852
theorem rL_law_1853 : ab_Run X 288 1853 (f, cl, sl) L (ab_I i :: ab_R a :: st) σ Q ↔ (a = -1 ∧ 0 ≤ i ∧ i < X.1) ∧ ab_Run X 288 1854 (f, cl, sl) L (ab_I (X.2 i) :: st) σ Q := ab_r_ialoadX rfl kc_L_law dL_law_1853
theorem rL_law_1854 (h : 2 + 1 ≤ f ∧ 0 ≤ cl ∧ 0 ≤ sl) : ab_Run X 288 1854 (f, cl, sl) L (ab_I x2 :: ab_I x1 :: ab_R a :: st) σ Q ↔ ((ab_sh σ a).1 = 12 ∧ ab_cats st ≤ 8) ∧ ab_Do X 108 [ab_R a, ab_I x1, ab_I x2] σ (fun r σ' => ab_Run X 288 1857 (f, cl, sl) L (ab_psh r st) σ' Q) := ab_r_callV (w := [ab_I x2, ab_I x1]) (as := [ab_I x1, ab_I x2]) (b1 := (2, 0, 0)) 0 (Or.inl rfl) (by decide) ko_L_law qM_14_143 (by decide) rfl rfl rfl rfl rfl h (Nat.le_of_ble_eq_true rfl) kc_L_law dL_law_1854
theorem rL_law_1857 : ab_Run X 288 1857 (f, cl, sl) [l0, l1, ab_R z, l3, l4, l5, l6] st σ Q ↔ z ≠ 0 ∧ ab_Run X 288 1858 (f, cl, sl) [l0, l1, ab_R z, l3, l4, l5, l6] (ab_R z :: st) σ Q := ab_r_aload_n rfl kc_L_law dL_law_1857
theorem rL_law_1858 : ab_Run X 288 1858 (f, cl, sl) [ab_R z, l1, l2, l3, l4, l5, l6] st σ Q ↔ z ≠ 0 ∧ ab_Run X 288 1859 (f, cl, sl) [ab_R z, l1, l2, l3, l4, l5, l6] (ab_R z :: st) σ Q := ab_r_aload_n rfl kc_L_law dL_law_1858
theorem rL_law_1859 : ab_Run X 288 1859 (f, cl, sl) [l0, l1, l2, l3, ab_I z, l5, l6] st σ Q ↔ ab_Run X 288 1861 (f, cl, sl) [l0, l1, l2, l3, ab_I z, l5, l6] (ab_I z :: st) σ Q := ab_r_iload rfl kc_L_law dL_law_1859
theorem rL_law_1861 : ab_Run X 288 1861 (f, cl, sl) L st σ Q ↔ ab_Run X 288 1862 (f, cl, sl) L (ab_I 1 :: st) σ Q := ab_r_iconst (by decide) kc_L_law dL_law_1861
theorem rL_law_1862 : ab_Run X 288 1862 (f, cl, sl) L (ab_I b :: ab_I a :: st) σ Q ↔ ab_Run X 288 1863 (f, cl, sl) L (ab_I (ab_w32 (a + b)) :: st) σ Q := ab_r_iadd kc_L_law dL_law_1862
theorem rL_law_1863 : ab_Run X 288 1863 (f, cl, sl) L (ab_I i :: ab_R a :: st) σ Q ↔ (a = -1 ∧ 0 ≤ i ∧ i < X.1) ∧ ab_Run X 288 1864 (f, cl, sl) L (ab_I (X.2 i) :: st) σ Q := ab_r_ialoadX rfl kc_L_law dL_law_1863
theorem rL_law_1864 : ab_Run X 288 1864 (f, cl, sl) [ab_R z, l1, l2, l3, l4, l5, l6] st σ Q ↔ z ≠ 0 ∧ ab_Run X 288 1865 (f, cl, sl) [ab_R z, l1, l2, l3, l4, l5, l6] (ab_R z :: st) σ Q := ab_r_aload_n rfl kc_L_law dL_law_1864
theorem rL_law_1865 : ab_Run X 288 1865 (f, cl, sl) [l0, l1, l2, l3, ab_I z, l5, l6] st σ Q ↔ ab_Run X 288 1867 (f, cl, sl) [l0, l1, l2, l3, ab_I z, l5, l6] (ab_I z :: st) σ Q := ab_r_iload rfl kc_L_law dL_law_1865
theorem rL_law_1867 : ab_Run X 288 1867 (f, cl, sl) L st σ Q ↔ ab_Run X 288 1868 (f, cl, sl) L (ab_I 2 :: st) σ Q := ab_r_iconst (by decide) kc_L_law dL_law_1867
theorem rL_law_1868 : ab_Run X 288 1868 (f, cl, sl) L (ab_I b :: ab_I a :: st) σ Q ↔ ab_Run X 288 1869 (f, cl, sl) L (ab_I (ab_w32 (a + b)) :: st) σ Q := ab_r_iadd kc_L_law dL_law_1868
theorem rL_law_1869 : ab_Run X 288 1869 (f, cl, sl) L (ab_I i :: ab_R a :: st) σ Q ↔ (a = -1 ∧ 0 ≤ i ∧ i < X.1) ∧ ab_Run X 288 1870 (f, cl, sl) L (ab_I (X.2 i) :: st) σ Q := ab_r_ialoadX rfl kc_L_law dL_law_1869
theorem rL_law_1870 (h : 2 + 1 ≤ f ∧ 0 ≤ cl ∧ 0 ≤ sl) : ab_Run X 288 1870 (f, cl, sl) L (ab_I x2 :: ab_I x1 :: ab_R a :: st) σ Q ↔ ((ab_sh σ a).1 = 14 ∧ ab_cats st ≤ 8) ∧ ab_Do X 265 [ab_R a, ab_I x1, ab_I x2] σ (fun r σ' => ab_Run X 288 1873 (f, cl, sl) L (ab_psh r st) σ' Q) := ab_r_callV (w := [ab_I x2, ab_I x1]) (as := [ab_I x1, ab_I x2]) (b1 := (2, 0, 0)) 0 (Or.inl rfl) (by decide) ko_L_law qM_14_146 (by decide) rfl rfl rfl rfl rfl h (Nat.le_of_ble_eq_true rfl) kc_L_law dL_law_1870
theorem rL_law_1873 : ab_Run X 288 1873 (f, cl, sl) L (ab_I b :: ab_I a :: st) σ Q ↔ (a = b → ab_Run X 288 2374 (f, cl, sl) L st σ Q) ∧ (¬ (a = b) → ab_Run X 288 1876 (f, cl, sl) L st σ Q) := ab_r_icmp_eq rfl kc_L_law dL_law_1873
theorem rL_law_1876 : ab_Run X 288 1876 (f, cl, sl) L st σ Q ↔ ab_Run X 288 1877 (f, cl, sl) L (ab_I 0 :: st) σ Q := ab_r_iconst (by decide) kc_L_law dL_law_1876
theorem rL_law_1877 : ab_Run X 288 1877 (f, cl, sl) L [ab_I v] σ Q ↔ (v = 0 ∨ v = 1) ∧ Q (some (ab_I v)) σ := ab_r_ireturnZ rfl kc_L_law dL_law_1877
theorem rL_law_1878 : ab_Run X 288 1878 (f, cl, sl) [l0, ab_R z, l2, l3, l4, l5, l6] st σ Q ↔ z ≠ 0 ∧ ab_Run X 288 1879 (f, cl, sl) [l0, ab_R z, l2, l3, l4, l5, l6] (ab_R z :: st) σ Q := ab_r_aload_n rfl kc_L_law dL_law_1878
theorem rL_law_1879 : ab_Run X 288 1879 (f, cl, sl) [ab_R z, l1, l2, l3, l4, l5, l6] st σ Q ↔ z ≠ 0 ∧ ab_Run X 288 1880 (f, cl, sl) [ab_R z, l1, l2, l3, l4, l5, l6] (ab_R z :: st) σ Q := ab_r_aload_n rfl kc_L_law dL_law_1879
theorem rL_law_1880 : ab_Run X 288 1880 (f, cl, sl) [l0, l1, l2, l3, ab_I z, l5, l6] st σ Q ↔ ab_Run X 288 1882 (f, cl, sl) [l0, l1, l2, l3, ab_I z, l5, l6] (ab_I z :: st) σ Q := ab_r_iload rfl kc_L_law dL_law_1880
theorem rL_law_1882 : ab_Run X 288 1882 (f, cl, sl) L st σ Q ↔ ab_Run X 288 1883 (f, cl, sl) L (ab_I 1 :: st) σ Q := ab_r_iconst (by decide) kc_L_law dL_law_1882
theorem rL_law_1883 : ab_Run X 288 1883 (f, cl, sl) L (ab_I b :: ab_I a :: st) σ Q ↔ ab_Run X 288 1884 (f, cl, sl) L (ab_I (ab_w32 (a + b)) :: st) σ Q := ab_r_iadd kc_L_law dL_law_1883
theorem rL_law_1884 : ab_Run X 288 1884 (f, cl, sl) L (ab_I i :: ab_R a :: st) σ Q ↔ (a = -1 ∧ 0 ≤ i ∧ i < X.1) ∧ ab_Run X 288 1885 (f, cl, sl) L (ab_I (X.2 i) :: st) σ Q := ab_r_ialoadX rfl kc_L_law dL_law_1884
theorem rL_law_1885 (h : 1 + 1 ≤ f ∧ 0 ≤ cl ∧ 0 ≤ sl) : ab_Run X 288 1885 (f, cl, sl) L (ab_I x1 :: ab_R a :: st) σ Q ↔ ((ab_sh σ a).1 = 12 ∧ ab_cats st ≤ 8) ∧ ab_Do X 109 [ab_R a, ab_I x1] σ (fun r σ' => ab_Run X 288 1888 (f, cl, sl) L (ab_psh r st) σ' Q) := ab_r_callV (w := [ab_I x1]) (as := [ab_I x1]) (b1 := (1, 0, 0)) 0 (Or.inl rfl) (by decide) ko_L_law qM_14_147 (by decide) rfl rfl rfl rfl rfl h (Nat.le_of_ble_eq_true rfl) kc_L_law dL_law_1885
theorem rL_law_1888 : ab_Run X 288 1888 (f, cl, sl) [l0, l1, ab_R z, l3, l4, l5, l6] st σ Q ↔ z ≠ 0 ∧ ab_Run X 288 1889 (f, cl, sl) [l0, l1, ab_R z, l3, l4, l5, l6] (ab_R z :: st) σ Q := ab_r_aload_n rfl kc_L_law dL_law_1888
theorem rL_law_1889 : ab_Run X 288 1889 (f, cl, sl) [ab_R z, l1, l2, l3, l4, l5, l6] st σ Q ↔ z ≠ 0 ∧ ab_Run X 288 1890 (f, cl, sl) [ab_R z, l1, l2, l3, l4, l5, l6] (ab_R z :: st) σ Q := ab_r_aload_n rfl kc_L_law dL_law_1889
theorem rL_law_1890 : ab_Run X 288 1890 (f, cl, sl) [l0, l1, l2, l3, ab_I z, l5, l6] st σ Q ↔ ab_Run X 288 1892 (f, cl, sl) [l0, l1, l2, l3, ab_I z, l5, l6] (ab_I z :: st) σ Q := ab_r_iload rfl kc_L_law dL_law_1890
theorem rL_law_1892 : ab_Run X 288 1892 (f, cl, sl) L st σ Q ↔ ab_Run X 288 1893 (f, cl, sl) L (ab_I 1 :: st) σ Q := ab_r_iconst (by decide) kc_L_law dL_law_1892
theorem rL_law_1893 : ab_Run X 288 1893 (f, cl, sl) L (ab_I b :: ab_I a :: st) σ Q ↔ ab_Run X 288 1894 (f, cl, sl) L (ab_I (ab_w32 (a + b)) :: st) σ Q := ab_r_iadd kc_L_law dL_law_1893
theorem rL_law_1894 : ab_Run X 288 1894 (f, cl, sl) L (ab_I i :: ab_R a :: st) σ Q ↔ (a = -1 ∧ 0 ≤ i ∧ i < X.1) ∧ ab_Run X 288 1895 (f, cl, sl) L (ab_I (X.2 i) :: st) σ Q := ab_r_ialoadX rfl kc_L_law dL_law_1894
theorem rL_law_1895 (h : 1 + 1 ≤ f ∧ 0 ≤ cl ∧ 0 ≤ sl) : ab_Run X 288 1895 (f, cl, sl) L (ab_I x1 :: ab_R a :: st) σ Q ↔ ((ab_sh σ a).1 = 14 ∧ ab_cats st ≤ 8) ∧ ab_Do X 266 [ab_R a, ab_I x1] σ (fun r σ' => ab_Run X 288 1898 (f, cl, sl) L (ab_psh r st) σ' Q) := ab_r_callV (w := [ab_I x1]) (as := [ab_I x1]) (b1 := (1, 0, 0)) 0 (Or.inl rfl) (by decide) ko_L_law qM_14_150 (by decide) rfl rfl rfl rfl rfl h (Nat.le_of_ble_eq_true rfl) kc_L_law dL_law_1895
theorem rL_law_1898 : ab_Run X 288 1898 (f, cl, sl) L (ab_I b :: ab_I a :: st) σ Q ↔ (a = b → ab_Run X 288 2374 (f, cl, sl) L st σ Q) ∧ (¬ (a = b) → ab_Run X 288 1901 (f, cl, sl) L st σ Q) := ab_r_icmp_eq rfl kc_L_law dL_law_1898
theorem rL_law_1901 : ab_Run X 288 1901 (f, cl, sl) L st σ Q ↔ ab_Run X 288 1902 (f, cl, sl) L (ab_I 0 :: st) σ Q := ab_r_iconst (by decide) kc_L_law dL_law_1901
theorem rL_law_1902 : ab_Run X 288 1902 (f, cl, sl) L [ab_I v] σ Q ↔ (v = 0 ∨ v = 1) ∧ Q (some (ab_I v)) σ := ab_r_ireturnZ rfl kc_L_law dL_law_1902
theorem rL_law_1903 : ab_Run X 288 1903 (f, cl, sl) [l0, ab_R z, l2, l3, l4, l5, l6] st σ Q ↔ z ≠ 0 ∧ ab_Run X 288 1904 (f, cl, sl) [l0, ab_R z, l2, l3, l4, l5, l6] (ab_R z :: st) σ Q := ab_r_aload_n rfl kc_L_law dL_law_1903
theorem rL_law_1904 : ab_Run X 288 1904 (f, cl, sl) [ab_R z, l1, l2, l3, l4, l5, l6] st σ Q ↔ z ≠ 0 ∧ ab_Run X 288 1905 (f, cl, sl) [ab_R z, l1, l2, l3, l4, l5, l6] (ab_R z :: st) σ Q := ab_r_aload_n rfl kc_L_law dL_law_1904
theorem rL_law_1905 : ab_Run X 288 1905 (f, cl, sl) [l0, l1, l2, l3, ab_I z, l5, l6] st σ Q ↔ ab_Run X 288 1907 (f, cl, sl) [l0, l1, l2, l3, ab_I z, l5, l6] (ab_I z :: st) σ Q := ab_r_iload rfl kc_L_law dL_law_1905
theorem rL_law_1907 : ab_Run X 288 1907 (f, cl, sl) L st σ Q ↔ ab_Run X 288 1908 (f, cl, sl) L (ab_I 1 :: st) σ Q := ab_r_iconst (by decide) kc_L_law dL_law_1907
theorem rL_law_1908 : ab_Run X 288 1908 (f, cl, sl) L (ab_I b :: ab_I a :: st) σ Q ↔ ab_Run X 288 1909 (f, cl, sl) L (ab_I (ab_w32 (a + b)) :: st) σ Q := ab_r_iadd kc_L_law dL_law_1908
theorem rL_law_1909 : ab_Run X 288 1909 (f, cl, sl) L (ab_I i :: ab_R a :: st) σ Q ↔ (a = -1 ∧ 0 ≤ i ∧ i < X.1) ∧ ab_Run X 288 1910 (f, cl, sl) L (ab_I (X.2 i) :: st) σ Q := ab_r_ialoadX rfl kc_L_law dL_law_1909
theorem rL_law_1910 (h : 6 + 1 ≤ f ∧ 0 ≤ cl ∧ 0 ≤ sl) : ab_Run X 288 1910 (f, cl, sl) L (ab_I x1 :: ab_R a :: st) σ Q ↔ ((ab_sh σ a).1 = 12 ∧ ab_cats st ≤ 8) ∧ ab_Do X 110 [ab_R a, ab_I x1] σ (fun r σ' => ab_Run X 288 1913 (f, cl, sl) L (ab_psh r st) σ' Q) := ab_r_callV (w := [ab_I x1]) (as := [ab_I x1]) (b1 := (6, 0, 0)) 0 (Or.inl rfl) (by decide) ko_L_law qM_14_151 (by decide) rfl rfl rfl rfl rfl h (Nat.le_of_ble_eq_true rfl) kc_L_law dL_law_1910
theorem rL_law_1913 : ab_Run X 288 1913 (f, cl, sl) [l0, l1, ab_R z, l3, l4, l5, l6] st σ Q ↔ z ≠ 0 ∧ ab_Run X 288 1914 (f, cl, sl) [l0, l1, ab_R z, l3, l4, l5, l6] (ab_R z :: st) σ Q := ab_r_aload_n rfl kc_L_law dL_law_1913
theorem rL_law_1914 : ab_Run X 288 1914 (f, cl, sl) [ab_R z, l1, l2, l3, l4, l5, l6] st σ Q ↔ z ≠ 0 ∧ ab_Run X 288 1915 (f, cl, sl) [ab_R z, l1, l2, l3, l4, l5, l6] (ab_R z :: st) σ Q := ab_r_aload_n rfl kc_L_law dL_law_1914
theorem rL_law_1915 : ab_Run X 288 1915 (f, cl, sl) [l0, l1, l2, l3, ab_I z, l5, l6] st σ Q ↔ ab_Run X 288 1917 (f, cl, sl) [l0, l1, l2, l3, ab_I z, l5, l6] (ab_I z :: st) σ Q := ab_r_iload rfl kc_L_law dL_law_1915
theorem rL_law_1917 : ab_Run X 288 1917 (f, cl, sl) L st σ Q ↔ ab_Run X 288 1918 (f, cl, sl) L (ab_I 1 :: st) σ Q := ab_r_iconst (by decide) kc_L_law dL_law_1917
theorem rL_law_1918 : ab_Run X 288 1918 (f, cl, sl) L (ab_I b :: ab_I a :: st) σ Q ↔ ab_Run X 288 1919 (f, cl, sl) L (ab_I (ab_w32 (a + b)) :: st) σ Q := ab_r_iadd kc_L_law dL_law_1918
theorem rL_law_1919 : ab_Run X 288 1919 (f, cl, sl) L (ab_I i :: ab_R a :: st) σ Q ↔ (a = -1 ∧ 0 ≤ i ∧ i < X.1) ∧ ab_Run X 288 1920 (f, cl, sl) L (ab_I (X.2 i) :: st) σ Q := ab_r_ialoadX rfl kc_L_law dL_law_1919
theorem rL_law_1920 (h : 6 + 1 ≤ f ∧ 0 ≤ cl ∧ 0 ≤ sl) : ab_Run X 288 1920 (f, cl, sl) L (ab_I x1 :: ab_R a :: st) σ Q ↔ ((ab_sh σ a).1 = 14 ∧ ab_cats st ≤ 8) ∧ ab_Do X 269 [ab_R a, ab_I x1] σ (fun r σ' => ab_Run X 288 1923 (f, cl, sl) L (ab_psh r st) σ' Q) := ab_r_callV (w := [ab_I x1]) (as := [ab_I x1]) (b1 := (6, 0, 0)) 0 (Or.inl rfl) (by decide) ko_L_law qM_14_154 (by decide) rfl rfl rfl rfl rfl h (Nat.le_of_ble_eq_true rfl) kc_L_law dL_law_1920
theorem rL_law_1923 : ab_Run X 288 1923 (f, cl, sl) L (ab_I b :: ab_I a :: st) σ Q ↔ (a = b → ab_Run X 288 2374 (f, cl, sl) L st σ Q) ∧ (¬ (a = b) → ab_Run X 288 1926 (f, cl, sl) L st σ Q) := ab_r_icmp_eq rfl kc_L_law dL_law_1923
theorem rL_law_1926 : ab_Run X 288 1926 (f, cl, sl) L st σ Q ↔ ab_Run X 288 1927 (f, cl, sl) L (ab_I 0 :: st) σ Q := ab_r_iconst (by decide) kc_L_law dL_law_1926
theorem rL_law_1927 : ab_Run X 288 1927 (f, cl, sl) L [ab_I v] σ Q ↔ (v = 0 ∨ v = 1) ∧ Q (some (ab_I v)) σ := ab_r_ireturnZ rfl kc_L_law dL_law_1927
theorem rL_law_1928 : ab_Run X 288 1928 (f, cl, sl) [l0, ab_R z, l2, l3, l4, l5, l6] st σ Q ↔ z ≠ 0 ∧ ab_Run X 288 1929 (f, cl, sl) [l0, ab_R z, l2, l3, l4, l5, l6] (ab_R z :: st) σ Q := ab_r_aload_n rfl kc_L_law dL_law_1928
theorem rL_law_1929 : ab_Run X 288 1929 (f, cl, sl) [ab_R z, l1, l2, l3, l4, l5, l6] st σ Q ↔ z ≠ 0 ∧ ab_Run X 288 1930 (f, cl, sl) [ab_R z, l1, l2, l3, l4, l5, l6] (ab_R z :: st) σ Q := ab_r_aload_n rfl kc_L_law dL_law_1929
theorem rL_law_1930 : ab_Run X 288 1930 (f, cl, sl) [l0, l1, l2, l3, ab_I z, l5, l6] st σ Q ↔ ab_Run X 288 1932 (f, cl, sl) [l0, l1, l2, l3, ab_I z, l5, l6] (ab_I z :: st) σ Q := ab_r_iload rfl kc_L_law dL_law_1930
theorem rL_law_1932 : ab_Run X 288 1932 (f, cl, sl) L st σ Q ↔ ab_Run X 288 1933 (f, cl, sl) L (ab_I 1 :: st) σ Q := ab_r_iconst (by decide) kc_L_law dL_law_1932
theorem rL_law_1933 : ab_Run X 288 1933 (f, cl, sl) L (ab_I b :: ab_I a :: st) σ Q ↔ ab_Run X 288 1934 (f, cl, sl) L (ab_I (ab_w32 (a + b)) :: st) σ Q := ab_r_iadd kc_L_law dL_law_1933
theorem rL_law_1934 : ab_Run X 288 1934 (f, cl, sl) L (ab_I i :: ab_R a :: st) σ Q ↔ (a = -1 ∧ 0 ≤ i ∧ i < X.1) ∧ ab_Run X 288 1935 (f, cl, sl) L (ab_I (X.2 i) :: st) σ Q := ab_r_ialoadX rfl kc_L_law dL_law_1934
theorem rL_law_1935 (h : 6 + 1 ≤ f ∧ 0 ≤ cl ∧ 0 ≤ sl) : ab_Run X 288 1935 (f, cl, sl) L (ab_I x1 :: ab_R a :: st) σ Q ↔ ((ab_sh σ a).1 = 12 ∧ ab_cats st ≤ 8) ∧ ab_Do X 111 [ab_R a, ab_I x1] σ (fun r σ' => ab_Run X 288 1938 (f, cl, sl) L (ab_psh r st) σ' Q) := ab_r_callV (w := [ab_I x1]) (as := [ab_I x1]) (b1 := (6, 0, 0)) 0 (Or.inl rfl) (by decide) ko_L_law qM_14_155 (by decide) rfl rfl rfl rfl rfl h (Nat.le_of_ble_eq_true rfl) kc_L_law dL_law_1935
theorem rL_law_1938 : ab_Run X 288 1938 (f, cl, sl) [l0, l1, ab_R z, l3, l4, l5, l6] st σ Q ↔ z ≠ 0 ∧ ab_Run X 288 1939 (f, cl, sl) [l0, l1, ab_R z, l3, l4, l5, l6] (ab_R z :: st) σ Q := ab_r_aload_n rfl kc_L_law dL_law_1938
theorem rL_law_1939 : ab_Run X 288 1939 (f, cl, sl) [ab_R z, l1, l2, l3, l4, l5, l6] st σ Q ↔ z ≠ 0 ∧ ab_Run X 288 1940 (f, cl, sl) [ab_R z, l1, l2, l3, l4, l5, l6] (ab_R z :: st) σ Q := ab_r_aload_n rfl kc_L_law dL_law_1939
theorem rL_law_1940 : ab_Run X 288 1940 (f, cl, sl) [l0, l1, l2, l3, ab_I z, l5, l6] st σ Q ↔ ab_Run X 288 1942 (f, cl, sl) [l0, l1, l2, l3, ab_I z, l5, l6] (ab_I z :: st) σ Q := ab_r_iload rfl kc_L_law dL_law_1940
theorem rL_law_1942 : ab_Run X 288 1942 (f, cl, sl) L st σ Q ↔ ab_Run X 288 1943 (f, cl, sl) L (ab_I 1 :: st) σ Q := ab_r_iconst (by decide) kc_L_law dL_law_1942
theorem rL_law_1943 : ab_Run X 288 1943 (f, cl, sl) L (ab_I b :: ab_I a :: st) σ Q ↔ ab_Run X 288 1944 (f, cl, sl) L (ab_I (ab_w32 (a + b)) :: st) σ Q := ab_r_iadd kc_L_law dL_law_1943
theorem rL_law_1944 : ab_Run X 288 1944 (f, cl, sl) L (ab_I i :: ab_R a :: st) σ Q ↔ (a = -1 ∧ 0 ≤ i ∧ i < X.1) ∧ ab_Run X 288 1945 (f, cl, sl) L (ab_I (X.2 i) :: st) σ Q := ab_r_ialoadX rfl kc_L_law dL_law_1944
theorem rL_law_1945 (h : 6 + 1 ≤ f ∧ 0 ≤ cl ∧ 0 ≤ sl) : ab_Run X 288 1945 (f, cl, sl) L (ab_I x1 :: ab_R a :: st) σ Q ↔ ((ab_sh σ a).1 = 14 ∧ ab_cats st ≤ 8) ∧ ab_Do X 270 [ab_R a, ab_I x1] σ (fun r σ' => ab_Run X 288 1948 (f, cl, sl) L (ab_psh r st) σ' Q) := ab_r_callV (w := [ab_I x1]) (as := [ab_I x1]) (b1 := (6, 0, 0)) 0 (Or.inl rfl) (by decide) ko_L_law qM_14_158 (by decide) rfl rfl rfl rfl rfl h (Nat.le_of_ble_eq_true rfl) kc_L_law dL_law_1945
theorem rL_law_1948 : ab_Run X 288 1948 (f, cl, sl) L (ab_I b :: ab_I a :: st) σ Q ↔ (a = b → ab_Run X 288 2374 (f, cl, sl) L st σ Q) ∧ (¬ (a = b) → ab_Run X 288 1951 (f, cl, sl) L st σ Q) := ab_r_icmp_eq rfl kc_L_law dL_law_1948
theorem rL_law_1951 : ab_Run X 288 1951 (f, cl, sl) L st σ Q ↔ ab_Run X 288 1952 (f, cl, sl) L (ab_I 0 :: st) σ Q := ab_r_iconst (by decide) kc_L_law dL_law_1951
theorem rL_law_1952 : ab_Run X 288 1952 (f, cl, sl) L [ab_I v] σ Q ↔ (v = 0 ∨ v = 1) ∧ Q (some (ab_I v)) σ := ab_r_ireturnZ rfl kc_L_law dL_law_1952
theorem rL_law_1953 : ab_Run X 288 1953 (f, cl, sl) [l0, ab_R z, l2, l3, l4, l5, l6] st σ Q ↔ z ≠ 0 ∧ ab_Run X 288 1954 (f, cl, sl) [l0, ab_R z, l2, l3, l4, l5, l6] (ab_R z :: st) σ Q := ab_r_aload_n rfl kc_L_law dL_law_1953
theorem rL_law_1954 : ab_Run X 288 1954 (f, cl, sl) [ab_R z, l1, l2, l3, l4, l5, l6] st σ Q ↔ z ≠ 0 ∧ ab_Run X 288 1955 (f, cl, sl) [ab_R z, l1, l2, l3, l4, l5, l6] (ab_R z :: st) σ Q := ab_r_aload_n rfl kc_L_law dL_law_1954
theorem rL_law_1955 : ab_Run X 288 1955 (f, cl, sl) [l0, l1, l2, l3, ab_I z, l5, l6] st σ Q ↔ ab_Run X 288 1957 (f, cl, sl) [l0, l1, l2, l3, ab_I z, l5, l6] (ab_I z :: st) σ Q := ab_r_iload rfl kc_L_law dL_law_1955
theorem rL_law_1957 : ab_Run X 288 1957 (f, cl, sl) L st σ Q ↔ ab_Run X 288 1958 (f, cl, sl) L (ab_I 1 :: st) σ Q := ab_r_iconst (by decide) kc_L_law dL_law_1957
theorem rL_law_1958 : ab_Run X 288 1958 (f, cl, sl) L (ab_I b :: ab_I a :: st) σ Q ↔ ab_Run X 288 1959 (f, cl, sl) L (ab_I (ab_w32 (a + b)) :: st) σ Q := ab_r_iadd kc_L_law dL_law_1958
theorem rL_law_1959 : ab_Run X 288 1959 (f, cl, sl) L (ab_I i :: ab_R a :: st) σ Q ↔ (a = -1 ∧ 0 ≤ i ∧ i < X.1) ∧ ab_Run X 288 1960 (f, cl, sl) L (ab_I (X.2 i) :: st) σ Q := ab_r_ialoadX rfl kc_L_law dL_law_1959
theorem rL_law_1960 : ab_Run X 288 1960 (f, cl, sl) [ab_R z, l1, l2, l3, l4, l5, l6] st σ Q ↔ z ≠ 0 ∧ ab_Run X 288 1961 (f, cl, sl) [ab_R z, l1, l2, l3, l4, l5, l6] (ab_R z :: st) σ Q := ab_r_aload_n rfl kc_L_law dL_law_1960
theorem rL_law_1961 : ab_Run X 288 1961 (f, cl, sl) [l0, l1, l2, l3, ab_I z, l5, l6] st σ Q ↔ ab_Run X 288 1963 (f, cl, sl) [l0, l1, l2, l3, ab_I z, l5, l6] (ab_I z :: st) σ Q := ab_r_iload rfl kc_L_law dL_law_1961
theorem rL_law_1963 : ab_Run X 288 1963 (f, cl, sl) L st σ Q ↔ ab_Run X 288 1964 (f, cl, sl) L (ab_I 2 :: st) σ Q := ab_r_iconst (by decide) kc_L_law dL_law_1963
theorem rL_law_1964 : ab_Run X 288 1964 (f, cl, sl) L (ab_I b :: ab_I a :: st) σ Q ↔ ab_Run X 288 1965 (f, cl, sl) L (ab_I (ab_w32 (a + b)) :: st) σ Q := ab_r_iadd kc_L_law dL_law_1964
theorem rL_law_1965 : ab_Run X 288 1965 (f, cl, sl) L (ab_I i :: ab_R a :: st) σ Q ↔ (a = -1 ∧ 0 ≤ i ∧ i < X.1) ∧ ab_Run X 288 1966 (f, cl, sl) L (ab_I (X.2 i) :: st) σ Q := ab_r_ialoadX rfl kc_L_law dL_law_1965
theorem rL_law_1966 : ab_Run X 288 1966 (f, cl, sl) [ab_R z, l1, l2, l3, l4, l5, l6] st σ Q ↔ z ≠ 0 ∧ ab_Run X 288 1967 (f, cl, sl) [ab_R z, l1, l2, l3, l4, l5, l6] (ab_R z :: st) σ Q := ab_r_aload_n rfl kc_L_law dL_law_1966
theorem rL_law_1967 : ab_Run X 288 1967 (f, cl, sl) [l0, l1, l2, l3, ab_I z, l5, l6] st σ Q ↔ ab_Run X 288 1969 (f, cl, sl) [l0, l1, l2, l3, ab_I z, l5, l6] (ab_I z :: st) σ Q := ab_r_iload rfl kc_L_law dL_law_1967
theorem rL_law_1969 : ab_Run X 288 1969 (f, cl, sl) L st σ Q ↔ ab_Run X 288 1970 (f, cl, sl) L (ab_I 3 :: st) σ Q := ab_r_iconst (by decide) kc_L_law dL_law_1969
theorem rL_law_1970 : ab_Run X 288 1970 (f, cl, sl) L (ab_I b :: ab_I a :: st) σ Q ↔ ab_Run X 288 1971 (f, cl, sl) L (ab_I (ab_w32 (a + b)) :: st) σ Q := ab_r_iadd kc_L_law dL_law_1970
theorem rL_law_1971 : ab_Run X 288 1971 (f, cl, sl) L (ab_I i :: ab_R a :: st) σ Q ↔ (a = -1 ∧ 0 ≤ i ∧ i < X.1) ∧ ab_Run X 288 1972 (f, cl, sl) L (ab_I (X.2 i) :: st) σ Q := ab_r_ialoadX rfl kc_L_law dL_law_1971
theorem rL_law_1972 (h : 6 + 1 ≤ f ∧ 0 ≤ cl ∧ 0 ≤ sl) : ab_Run X 288 1972 (f, cl, sl) L (ab_I x3 :: ab_I x2 :: ab_I x1 :: ab_R a :: st) σ Q ↔ ((ab_sh σ a).1 = 12 ∧ ab_cats st ≤ 8) ∧ ab_Do X 112 [ab_R a, ab_I x1, ab_I x2, ab_I x3] σ (fun r σ' => ab_Run X 288 1975 (f, cl, sl) L (ab_psh r st) σ' Q) := ab_r_callV (w := [ab_I x3, ab_I x2, ab_I x1]) (as := [ab_I x1, ab_I x2, ab_I x3]) (b1 := (6, 0, 0)) 0 (Or.inl rfl) (by decide) ko_L_law qM_14_159 (by decide) rfl rfl rfl rfl rfl h (Nat.le_of_ble_eq_true rfl) kc_L_law dL_law_1972
theorem rL_law_1975 : ab_Run X 288 1975 (f, cl, sl) [l0, l1, ab_R z, l3, l4, l5, l6] st σ Q ↔ z ≠ 0 ∧ ab_Run X 288 1976 (f, cl, sl) [l0, l1, ab_R z, l3, l4, l5, l6] (ab_R z :: st) σ Q := ab_r_aload_n rfl kc_L_law dL_law_1975
theorem rL_law_1976 : ab_Run X 288 1976 (f, cl, sl) [ab_R z, l1, l2, l3, l4, l5, l6] st σ Q ↔ z ≠ 0 ∧ ab_Run X 288 1977 (f, cl, sl) [ab_R z, l1, l2, l3, l4, l5, l6] (ab_R z :: st) σ Q := ab_r_aload_n rfl kc_L_law dL_law_1976
theorem rL_law_1977 : ab_Run X 288 1977 (f, cl, sl) [l0, l1, l2, l3, ab_I z, l5, l6] st σ Q ↔ ab_Run X 288 1979 (f, cl, sl) [l0, l1, l2, l3, ab_I z, l5, l6] (ab_I z :: st) σ Q := ab_r_iload rfl kc_L_law dL_law_1977
theorem rL_law_1979 : ab_Run X 288 1979 (f, cl, sl) L st σ Q ↔ ab_Run X 288 1980 (f, cl, sl) L (ab_I 1 :: st) σ Q := ab_r_iconst (by decide) kc_L_law dL_law_1979
theorem rL_law_1980 : ab_Run X 288 1980 (f, cl, sl) L (ab_I b :: ab_I a :: st) σ Q ↔ ab_Run X 288 1981 (f, cl, sl) L (ab_I (ab_w32 (a + b)) :: st) σ Q := ab_r_iadd kc_L_law dL_law_1980
theorem rL_law_1981 : ab_Run X 288 1981 (f, cl, sl) L (ab_I i :: ab_R a :: st) σ Q ↔ (a = -1 ∧ 0 ≤ i ∧ i < X.1) ∧ ab_Run X 288 1982 (f, cl, sl) L (ab_I (X.2 i) :: st) σ Q := ab_r_ialoadX rfl kc_L_law dL_law_1981
theorem rL_law_1982 : ab_Run X 288 1982 (f, cl, sl) [ab_R z, l1, l2, l3, l4, l5, l6] st σ Q ↔ z ≠ 0 ∧ ab_Run X 288 1983 (f, cl, sl) [ab_R z, l1, l2, l3, l4, l5, l6] (ab_R z :: st) σ Q := ab_r_aload_n rfl kc_L_law dL_law_1982
theorem rL_law_1983 : ab_Run X 288 1983 (f, cl, sl) [l0, l1, l2, l3, ab_I z, l5, l6] st σ Q ↔ ab_Run X 288 1985 (f, cl, sl) [l0, l1, l2, l3, ab_I z, l5, l6] (ab_I z :: st) σ Q := ab_r_iload rfl kc_L_law dL_law_1983
theorem rL_law_1985 : ab_Run X 288 1985 (f, cl, sl) L st σ Q ↔ ab_Run X 288 1986 (f, cl, sl) L (ab_I 2 :: st) σ Q := ab_r_iconst (by decide) kc_L_law dL_law_1985
theorem rL_law_1986 : ab_Run X 288 1986 (f, cl, sl) L (ab_I b :: ab_I a :: st) σ Q ↔ ab_Run X 288 1987 (f, cl, sl) L (ab_I (ab_w32 (a + b)) :: st) σ Q := ab_r_iadd kc_L_law dL_law_1986
theorem rL_law_1987 : ab_Run X 288 1987 (f, cl, sl) L (ab_I i :: ab_R a :: st) σ Q ↔ (a = -1 ∧ 0 ≤ i ∧ i < X.1) ∧ ab_Run X 288 1988 (f, cl, sl) L (ab_I (X.2 i) :: st) σ Q := ab_r_ialoadX rfl kc_L_law dL_law_1987
theorem rL_law_1988 : ab_Run X 288 1988 (f, cl, sl) [ab_R z, l1, l2, l3, l4, l5, l6] st σ Q ↔ z ≠ 0 ∧ ab_Run X 288 1989 (f, cl, sl) [ab_R z, l1, l2, l3, l4, l5, l6] (ab_R z :: st) σ Q := ab_r_aload_n rfl kc_L_law dL_law_1988
theorem rL_law_1989 : ab_Run X 288 1989 (f, cl, sl) [l0, l1, l2, l3, ab_I z, l5, l6] st σ Q ↔ ab_Run X 288 1991 (f, cl, sl) [l0, l1, l2, l3, ab_I z, l5, l6] (ab_I z :: st) σ Q := ab_r_iload rfl kc_L_law dL_law_1989
theorem rL_law_1991 : ab_Run X 288 1991 (f, cl, sl) L st σ Q ↔ ab_Run X 288 1992 (f, cl, sl) L (ab_I 3 :: st) σ Q := ab_r_iconst (by decide) kc_L_law dL_law_1991
theorem rL_law_1992 : ab_Run X 288 1992 (f, cl, sl) L (ab_I b :: ab_I a :: st) σ Q ↔ ab_Run X 288 1993 (f, cl, sl) L (ab_I (ab_w32 (a + b)) :: st) σ Q := ab_r_iadd kc_L_law dL_law_1992
theorem rL_law_1993 : ab_Run X 288 1993 (f, cl, sl) L (ab_I i :: ab_R a :: st) σ Q ↔ (a = -1 ∧ 0 ≤ i ∧ i < X.1) ∧ ab_Run X 288 1994 (f, cl, sl) L (ab_I (X.2 i) :: st) σ Q := ab_r_ialoadX rfl kc_L_law dL_law_1993
end
