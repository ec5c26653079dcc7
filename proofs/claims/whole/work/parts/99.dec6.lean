/-! DECODE ROWS OF THE LAW, by program -/
theorem dL_law_1666 : gd cL_law 1666 (.aload_n 2) 1 1667 := by decide +kernel
theorem dL_law_1667 : gd cL_law 1667 (.aload_n 0) 1 1668 := by decide +kernel
theorem dL_law_1668 : gd cL_law 1668 (.iload 4) 2 1670 := by decide +kernel
theorem dL_law_1670 : decode cL_law 1670 = .ok (.iconst 1, 1) ∧ 1670 + 1 = 1671 ∧ Int32.ofInt (1) = (1) := by decide +kernel
theorem dL_law_1671 : gd cL_law 1671 (.iadd) 1 1672 := by decide +kernel
theorem dL_law_1672 : gd cL_law 1672 (.iaload) 1 1673 := by decide +kernel
theorem dL_law_1673 : gd cL_law 1673 (.aload_n 0) 1 1674 := by decide +kernel
theorem dL_law_1674 : gd cL_law 1674 (.iload 4) 2 1676 := by decide +kernel
theorem dL_law_1676 : decode cL_law 1676 = .ok (.iconst 2, 1) ∧ 1676 + 1 = 1677 ∧ Int32.ofInt (2) = (2) := by decide +kernel
theorem dL_law_1677 : gd cL_law 1677 (.iadd) 1 1678 := by decide +kernel
theorem dL_law_1678 : gd cL_law 1678 (.iaload) 1 1679 := by decide +kernel
theorem dL_law_1679 : gd cL_law 1679 (.invokevirtual 185) 3 1682 := by decide +kernel
theorem dL_law_1682 : gb cL_law 1682 (.if_icmp .eq 286) (286) 1685 1968 := by decide +kernel
theorem dL_law_1685 : decode cL_law 1685 = .ok (.iconst 0, 1) ∧ 1685 + 1 = 1686 ∧ Int32.ofInt (0) = (0) := by decide +kernel
theorem dL_law_1686 : gd cL_law 1686 (.ireturn) 1 1687 := by decide +kernel
theorem dL_law_1687 : gd cL_law 1687 (.aload_n 1) 1 1688 := by decide +kernel
theorem dL_law_1688 : gd cL_law 1688 (.aload_n 0) 1 1689 := by decide +kernel
theorem dL_law_1689 : gd cL_law 1689 (.iload 4) 2 1691 := by decide +kernel
theorem dL_law_1691 : decode cL_law 1691 = .ok (.iconst 1, 1) ∧ 1691 + 1 = 1692 ∧ Int32.ofInt (1) = (1) := by decide +kernel
theorem dL_law_1692 : gd cL_law 1692 (.iadd) 1 1693 := by decide +kernel
theorem dL_law_1693 : gd cL_law 1693 (.iaload) 1 1694 := by decide +kernel
theorem dL_law_1694 : gd cL_law 1694 (.aload_n 0) 1 1695 := by decide +kernel
theorem dL_law_1695 : gd cL_law 1695 (.iload 4) 2 1697 := by decide +kernel
theorem dL_law_1697 : decode cL_law 1697 = .ok (.iconst 2, 1) ∧ 1697 + 1 = 1698 ∧ Int32.ofInt (2) = (2) := by decide +kernel
theorem dL_law_1698 : gd cL_law 1698 (.iadd) 1 1699 := by decide +kernel
theorem dL_law_1699 : gd cL_law 1699 (.iaload) 1 1700 := by decide +kernel
theorem dL_law_1700 : gd cL_law 1700 (.invokevirtual 186) 3 1703 := by decide +kernel
theorem dL_law_1703 : gd cL_law 1703 (.aload_n 2) 1 1704 := by decide +kernel
theorem dL_law_1704 : gd cL_law 1704 (.aload_n 0) 1 1705 := by decide +kernel
theorem dL_law_1705 : gd cL_law 1705 (.iload 4) 2 1707 := by decide +kernel
theorem dL_law_1707 : decode cL_law 1707 = .ok (.iconst 1, 1) ∧ 1707 + 1 = 1708 ∧ Int32.ofInt (1) = (1) := by decide +kernel
theorem dL_law_1708 : gd cL_law 1708 (.iadd) 1 1709 := by decide +kernel
theorem dL_law_1709 : gd cL_law 1709 (.iaload) 1 1710 := by decide +kernel
theorem dL_law_1710 : gd cL_law 1710 (.aload_n 0) 1 1711 := by decide +kernel
theorem dL_law_1711 : gd cL_law 1711 (.iload 4) 2 1713 := by decide +kernel
theorem dL_law_1713 : decode cL_law 1713 = .ok (.iconst 2, 1) ∧ 1713 + 1 = 1714 ∧ Int32.ofInt (2) = (2) := by decide +kernel
theorem dL_law_1714 : gd cL_law 1714 (.iadd) 1 1715 := by decide +kernel
theorem dL_law_1715 : gd cL_law 1715 (.iaload) 1 1716 := by decide +kernel
theorem dL_law_1716 : gd cL_law 1716 (.invokevirtual 189) 3 1719 := by decide +kernel
theorem dL_law_1719 : gb cL_law 1719 (.if_icmp .eq 249) (249) 1722 1968 := by decide +kernel
theorem dL_law_1722 : decode cL_law 1722 = .ok (.iconst 0, 1) ∧ 1722 + 1 = 1723 ∧ Int32.ofInt (0) = (0) := by decide +kernel
theorem dL_law_1723 : gd cL_law 1723 (.ireturn) 1 1724 := by decide +kernel
theorem dL_law_1724 : gd cL_law 1724 (.aload_n 1) 1 1725 := by decide +kernel
theorem dL_law_1725 : gd cL_law 1725 (.aload_n 0) 1 1726 := by decide +kernel
theorem dL_law_1726 : gd cL_law 1726 (.iload 4) 2 1728 := by decide +kernel
theorem dL_law_1728 : decode cL_law 1728 = .ok (.iconst 1, 1) ∧ 1728 + 1 = 1729 ∧ Int32.ofInt (1) = (1) := by decide +kernel
theorem dL_law_1729 : gd cL_law 1729 (.iadd) 1 1730 := by decide +kernel
theorem dL_law_1730 : gd cL_law 1730 (.iaload) 1 1731 := by decide +kernel
theorem dL_law_1731 : gd cL_law 1731 (.aload_n 0) 1 1732 := by decide +kernel
theorem dL_law_1732 : gd cL_law 1732 (.iload 4) 2 1734 := by decide +kernel
theorem dL_law_1734 : decode cL_law 1734 = .ok (.iconst 2, 1) ∧ 1734 + 1 = 1735 ∧ Int32.ofInt (2) = (2) := by decide +kernel
theorem dL_law_1735 : gd cL_law 1735 (.iadd) 1 1736 := by decide +kernel
theorem dL_law_1736 : gd cL_law 1736 (.iaload) 1 1737 := by decide +kernel
theorem dL_law_1737 : gd cL_law 1737 (.invokevirtual 190) 3 1740 := by decide +kernel
theorem dL_law_1740 : gd cL_law 1740 (.aload_n 2) 1 1741 := by decide +kernel
theorem dL_law_1741 : gd cL_law 1741 (.aload_n 0) 1 1742 := by decide +kernel
theorem dL_law_1742 : gd cL_law 1742 (.iload 4) 2 1744 := by decide +kernel
theorem dL_law_1744 : decode cL_law 1744 = .ok (.iconst 1, 1) ∧ 1744 + 1 = 1745 ∧ Int32.ofInt (1) = (1) := by decide +kernel
theorem dL_law_1745 : gd cL_law 1745 (.iadd) 1 1746 := by decide +kernel
theorem dL_law_1746 : gd cL_law 1746 (.iaload) 1 1747 := by decide +kernel
theorem dL_law_1747 : gd cL_law 1747 (.aload_n 0) 1 1748 := by decide +kernel
theorem dL_law_1748 : gd cL_law 1748 (.iload 4) 2 1750 := by decide +kernel
theorem dL_law_1750 : decode cL_law 1750 = .ok (.iconst 2, 1) ∧ 1750 + 1 = 1751 ∧ Int32.ofInt (2) = (2) := by decide +kernel
theorem dL_law_1751 : gd cL_law 1751 (.iadd) 1 1752 := by decide +kernel
theorem dL_law_1752 : gd cL_law 1752 (.iaload) 1 1753 := by decide +kernel
theorem dL_law_1753 : gd cL_law 1753 (.invokevirtual 194) 3 1756 := by decide +kernel
theorem dL_law_1756 : gb cL_law 1756 (.if_icmp .eq 212) (212) 1759 1968 := by decide +kernel
theorem dL_law_1759 : decode cL_law 1759 = .ok (.iconst 0, 1) ∧ 1759 + 1 = 1760 ∧ Int32.ofInt (0) = (0) := by decide +kernel
theorem dL_law_1760 : gd cL_law 1760 (.ireturn) 1 1761 := by decide +kernel
theorem dL_law_1761 : gd cL_law 1761 (.aload_n 1) 1 1762 := by decide +kernel
theorem dL_law_1762 : gd cL_law 1762 (.aload_n 0) 1 1763 := by decide +kernel
theorem dL_law_1763 : gd cL_law 1763 (.iload 4) 2 1765 := by decide +kernel
theorem dL_law_1765 : decode cL_law 1765 = .ok (.iconst 1, 1) ∧ 1765 + 1 = 1766 ∧ Int32.ofInt (1) = (1) := by decide +kernel
theorem dL_law_1766 : gd cL_law 1766 (.iadd) 1 1767 := by decide +kernel
theorem dL_law_1767 : gd cL_law 1767 (.iaload) 1 1768 := by decide +kernel
theorem dL_law_1768 : gd cL_law 1768 (.aload_n 0) 1 1769 := by decide +kernel
theorem dL_law_1769 : gd cL_law 1769 (.iload 4) 2 1771 := by decide +kernel
theorem dL_law_1771 : decode cL_law 1771 = .ok (.iconst 2, 1) ∧ 1771 + 1 = 1772 ∧ Int32.ofInt (2) = (2) := by decide +kernel
theorem dL_law_1772 : gd cL_law 1772 (.iadd) 1 1773 := by decide +kernel
theorem dL_law_1773 : gd cL_law 1773 (.iaload) 1 1774 := by decide +kernel
theorem dL_law_1774 : gd cL_law 1774 (.invokevirtual 195) 3 1777 := by decide +kernel
theorem dL_law_1777 : gd cL_law 1777 (.aload_n 2) 1 1778 := by decide +kernel
theorem dL_law_1778 : gd cL_law 1778 (.aload_n 0) 1 1779 := by decide +kernel
theorem dL_law_1779 : gd cL_law 1779 (.iload 4) 2 1781 := by decide +kernel
theorem dL_law_1781 : decode cL_law 1781 = .ok (.iconst 1, 1) ∧ 1781 + 1 = 1782 ∧ Int32.ofInt (1) = (1) := by decide +kernel
theorem dL_law_1782 : gd cL_law 1782 (.iadd) 1 1783 := by decide +kernel
theorem dL_law_1783 : gd cL_law 1783 (.iaload) 1 1784 := by decide +kernel
theorem dL_law_1784 : gd cL_law 1784 (.aload_n 0) 1 1785 := by decide +kernel
theorem dL_law_1785 : gd cL_law 1785 (.iload 4) 2 1787 := by decide +kernel
theorem dL_law_1787 : decode cL_law 1787 = .ok (.iconst 2, 1) ∧ 1787 + 1 = 1788 ∧ Int32.ofInt (2) = (2) := by decide +kernel
theorem dL_law_1788 : gd cL_law 1788 (.iadd) 1 1789 := by decide +kernel
theorem dL_law_1789 : gd cL_law 1789 (.iaload) 1 1790 := by decide +kernel
theorem dL_law_1790 : gd cL_law 1790 (.invokevirtual 198) 3 1793 := by decide +kernel
theorem dL_law_1793 : gb cL_law 1793 (.if_icmp .eq 175) (175) 1796 1968 := by decide +kernel
theorem dL_law_1796 : decode cL_law 1796 = .ok (.iconst 0, 1) ∧ 1796 + 1 = 1797 ∧ Int32.ofInt (0) = (0) := by decide +kernel
theorem dL_law_1797 : gd cL_law 1797 (.ireturn) 1 1798 := by decide +kernel
theorem dL_law_1798 : gd cL_law 1798 (.aload_n 1) 1 1799 := by decide +kernel
theorem dL_law_1799 : gd cL_law 1799 (.aload_n 0) 1 1800 := by decide +kernel
theorem dL_law_1800 : gd cL_law 1800 (.iload 4) 2 1802 := by decide +kernel
theorem dL_law_1802 : decode cL_law 1802 = .ok (.iconst 1, 1) ∧ 1802 + 1 = 1803 ∧ Int32.ofInt (1) = (1) := by decide +kernel
theorem dL_law_1803 : gd cL_law 1803 (.iadd) 1 1804 := by decide +kernel
theorem dL_law_1804 : gd cL_law 1804 (.iaload) 1 1805 := by decide +kernel
theorem dL_law_1805 : gd cL_law 1805 (.invokevirtual 199) 3 1808 := by decide +kernel
theorem dL_law_1808 : gd cL_law 1808 (.aload_n 2) 1 1809 := by decide +kernel
theorem dL_law_1809 : gd cL_law 1809 (.aload_n 0) 1 1810 := by decide +kernel
theorem dL_law_1810 : gd cL_law 1810 (.iload 4) 2 1812 := by decide +kernel
theorem dL_law_1812 : decode cL_law 1812 = .ok (.iconst 1, 1) ∧ 1812 + 1 = 1813 ∧ Int32.ofInt (1) = (1) := by decide +kernel
theorem dL_law_1813 : gd cL_law 1813 (.iadd) 1 1814 := by decide +kernel
theorem dL_law_1814 : gd cL_law 1814 (.iaload) 1 1815 := by decide +kernel
theorem dL_law_1815 : gd cL_law 1815 (.invokevirtual 203) 3 1818 := by decide +kernel
theorem dL_law_1818 : gb cL_law 1818 (.if_icmp .eq 150) (150) 1821 1968 := by decide +kernel
theorem dL_law_1821 : decode cL_law 1821 = .ok (.iconst 0, 1) ∧ 1821 + 1 = 1822 ∧ Int32.ofInt (0) = (0) := by decide +kernel
theorem dL_law_1822 : gd cL_law 1822 (.ireturn) 1 1823 := by decide +kernel
theorem dL_law_1823 : gd cL_law 1823 (.aload_n 1) 1 1824 := by decide +kernel
theorem dL_law_1824 : gd cL_law 1824 (.invokevirtual 204) 3 1827 := by decide +kernel
theorem dL_law_1827 : gd cL_law 1827 (.aload_n 2) 1 1828 := by decide +kernel
theorem dL_law_1828 : gd cL_law 1828 (.invokevirtual 208) 3 1831 := by decide +kernel
theorem dL_law_1831 : gb cL_law 1831 (.if_icmp .eq 137) (137) 1834 1968 := by decide +kernel
theorem dL_law_1834 : decode cL_law 1834 = .ok (.iconst 0, 1) ∧ 1834 + 1 = 1835 ∧ Int32.ofInt (0) = (0) := by decide +kernel
theorem dL_law_1835 : gd cL_law 1835 (.ireturn) 1 1836 := by decide +kernel
theorem dL_law_1836 : gd cL_law 1836 (.aload_n 1) 1 1837 := by decide +kernel
theorem dL_law_1837 : gd cL_law 1837 (.invokevirtual 209) 3 1840 := by decide +kernel
theorem dL_law_1840 : gd cL_law 1840 (.aload_n 2) 1 1841 := by decide +kernel
theorem dL_law_1841 : gd cL_law 1841 (.invokevirtual 212) 3 1844 := by decide +kernel
theorem dL_law_1844 : gb cL_law 1844 (.if_icmp .eq 124) (124) 1847 1968 := by decide +kernel
theorem dL_law_1847 : decode cL_law 1847 = .ok (.iconst 0, 1) ∧ 1847 + 1 = 1848 ∧ Int32.ofInt (0) = (0) := by decide +kernel
theorem dL_law_1848 : gd cL_law 1848 (.ireturn) 1 1849 := by decide +kernel
theorem dL_law_1849 : gd cL_law 1849 (.aload_n 1) 1 1850 := by decide +kernel
theorem dL_law_1850 : gd cL_law 1850 (.aload_n 0) 1 1851 := by decide +kernel
theorem dL_law_1851 : gd cL_law 1851 (.iload 4) 2 1853 := by decide +kernel
theorem dL_law_1853 : decode cL_law 1853 = .ok (.iconst 1, 1) ∧ 1853 + 1 = 1854 ∧ Int32.ofInt (1) = (1) := by decide +kernel
theorem dL_law_1854 : gd cL_law 1854 (.iadd) 1 1855 := by decide +kernel
theorem dL_law_1855 : gd cL_law 1855 (.iaload) 1 1856 := by decide +kernel
theorem dL_law_1856 : gd cL_law 1856 (.invokevirtual 213) 3 1859 := by decide +kernel
theorem dL_law_1859 : gd cL_law 1859 (.aload_n 2) 1 1860 := by decide +kernel
theorem dL_law_1860 : gd cL_law 1860 (.aload_n 0) 1 1861 := by decide +kernel
theorem dL_law_1861 : gd cL_law 1861 (.iload 4) 2 1863 := by decide +kernel
theorem dL_law_1863 : decode cL_law 1863 = .ok (.iconst 1, 1) ∧ 1863 + 1 = 1864 ∧ Int32.ofInt (1) = (1) := by decide +kernel
theorem dL_law_1864 : gd cL_law 1864 (.iadd) 1 1865 := by decide +kernel
theorem dL_law_1865 : gd cL_law 1865 (.iaload) 1 1866 := by decide +kernel
theorem dL_law_1866 : gd cL_law 1866 (.invokevirtual 216) 3 1869 := by decide +kernel
theorem dL_law_1869 : gb cL_law 1869 (.if_icmp .eq 99) (99) 1872 1968 := by decide +kernel
theorem dL_law_1872 : decode cL_law 1872 = .ok (.iconst 0, 1) ∧ 1872 + 1 = 1873 ∧ Int32.ofInt (0) = (0) := by decide +kernel
theorem dL_law_1873 : gd cL_law 1873 (.ireturn) 1 1874 := by decide +kernel
theorem dL_law_1874 : gd cL_law 1874 (.aload_n 1) 1 1875 := by decide +kernel
theorem dL_law_1875 : gd cL_law 1875 (.aload_n 0) 1 1876 := by decide +kernel
theorem dL_law_1876 : gd cL_law 1876 (.iload 4) 2 1878 := by decide +kernel
theorem dL_law_1878 : decode cL_law 1878 = .ok (.iconst 1, 1) ∧ 1878 + 1 = 1879 ∧ Int32.ofInt (1) = (1) := by decide +kernel
theorem dL_law_1879 : gd cL_law 1879 (.iadd) 1 1880 := by decide +kernel
theorem dL_law_1880 : gd cL_law 1880 (.iaload) 1 1881 := by decide +kernel
theorem dL_law_1881 : gd cL_law 1881 (.aload_n 3) 1 1882 := by decide +kernel
theorem dL_law_1882 : gd cL_law 1882 (.invokestatic 217) 3 1885 := by decide +kernel
theorem dL_law_1885 : gd cL_law 1885 (.istore 5) 2 1887 := by decide +kernel
theorem dL_law_1887 : gd cL_law 1887 (.aload_n 2) 1 1888 := by decide +kernel
theorem dL_law_1888 : gd cL_law 1888 (.aload_n 0) 1 1889 := by decide +kernel
theorem dL_law_1889 : gd cL_law 1889 (.iload 4) 2 1891 := by decide +kernel
theorem dL_law_1891 : decode cL_law 1891 = .ok (.iconst 1, 1) ∧ 1891 + 1 = 1892 ∧ Int32.ofInt (1) = (1) := by decide +kernel
theorem dL_law_1892 : gd cL_law 1892 (.iadd) 1 1893 := by decide +kernel
theorem dL_law_1893 : gd cL_law 1893 (.iaload) 1 1894 := by decide +kernel
theorem dL_law_1894 : gd cL_law 1894 (.invokevirtual 222) 3 1897 := by decide +kernel
theorem dL_law_1897 : gd cL_law 1897 (.istore 6) 2 1899 := by decide +kernel
theorem dL_law_1899 : gd cL_law 1899 (.aload_n 2) 1 1900 := by decide +kernel
theorem dL_law_1900 : gd cL_law 1900 (.invokevirtual 223) 3 1903 := by decide +kernel
theorem dL_law_1903 : gd cL_law 1903 (.iload 5) 2 1905 := by decide +kernel
theorem dL_law_1905 : gb cL_law 1905 (.if_icmp .eq 5) (5) 1908 1910 := by decide +kernel
theorem dL_law_1908 : decode cL_law 1908 = .ok (.iconst 0, 1) ∧ 1908 + 1 = 1909 ∧ Int32.ofInt (0) = (0) := by decide +kernel
theorem dL_law_1909 : gd cL_law 1909 (.ireturn) 1 1910 := by decide +kernel
theorem dL_law_1910 : gd cL_law 1910 (.iload 5) 2 1912 := by decide +kernel
theorem dL_law_1912 : gb cL_law 1912 (.ifCond .ne 15) (15) 1915 1927 := by decide +kernel
theorem dL_law_1915 : gd cL_law 1915 (.aload_n 3) 1 1916 := by decide +kernel
theorem dL_law_1916 : decode cL_law 1916 = .ok (.iconst 0, 1) ∧ 1916 + 1 = 1917 ∧ Int32.ofInt (0) = (0) := by decide +kernel
theorem dL_law_1917 : gd cL_law 1917 (.laload) 1 1918 := by decide +kernel
theorem dL_law_1918 : gd cL_law 1918 (.iload 6) 2 1920 := by decide +kernel
theorem dL_law_1920 : gd cL_law 1920 (.i2l) 1 1921 := by decide +kernel
theorem dL_law_1921 : gd cL_law 1921 (.lcmp) 1 1922 := by decide +kernel
theorem dL_law_1922 : gb cL_law 1922 (.ifCond .eq 5) (5) 1925 1927 := by decide +kernel
theorem dL_law_1925 : decode cL_law 1925 = .ok (.iconst 0, 1) ∧ 1925 + 1 = 1926 ∧ Int32.ofInt (0) = (0) := by decide +kernel
theorem dL_law_1926 : gd cL_law 1926 (.ireturn) 1 1927 := by decide +kernel
theorem dL_law_1927 : gb cL_law 1927 (.goto 41) (41) 1930 1968 := by decide +kernel
theorem dL_law_1930 : gd cL_law 1930 (.aload_n 1) 1 1931 := by decide +kernel
theorem dL_law_1931 : gd cL_law 1931 (.aload_n 0) 1 1932 := by decide +kernel
theorem dL_law_1932 : gd cL_law 1932 (.iload 4) 2 1934 := by decide +kernel
theorem dL_law_1934 : decode cL_law 1934 = .ok (.iconst 1, 1) ∧ 1934 + 1 = 1935 ∧ Int32.ofInt (1) = (1) := by decide +kernel
theorem dL_law_1935 : gd cL_law 1935 (.iadd) 1 1936 := by decide +kernel
theorem dL_law_1936 : gd cL_law 1936 (.iaload) 1 1937 := by decide +kernel
theorem dL_law_1937 : gd cL_law 1937 (.invokevirtual 226) 3 1940 := by decide +kernel
theorem dL_law_1940 : gd cL_law 1940 (.aload_n 2) 1 1941 := by decide +kernel
theorem dL_law_1941 : gd cL_law 1941 (.aload_n 0) 1 1942 := by decide +kernel
theorem dL_law_1942 : gd cL_law 1942 (.iload 4) 2 1944 := by decide +kernel
theorem dL_law_1944 : decode cL_law 1944 = .ok (.iconst 1, 1) ∧ 1944 + 1 = 1945 ∧ Int32.ofInt (1) = (1) := by decide +kernel
theorem dL_law_1945 : gd cL_law 1945 (.iadd) 1 1946 := by decide +kernel
theorem dL_law_1946 : gd cL_law 1946 (.iaload) 1 1947 := by decide +kernel
theorem dL_law_1947 : gd cL_law 1947 (.invokevirtual 229) 3 1950 := by decide +kernel
theorem dL_law_1950 : gb cL_law 1950 (.if_icmp .eq 18) (18) 1953 1968 := by decide +kernel
theorem dL_law_1953 : decode cL_law 1953 = .ok (.iconst 0, 1) ∧ 1953 + 1 = 1954 ∧ Int32.ofInt (0) = (0) := by decide +kernel
theorem dL_law_1954 : gd cL_law 1954 (.ireturn) 1 1955 := by decide +kernel
theorem dL_law_1955 : gd cL_law 1955 (.aload_n 1) 1 1956 := by decide +kernel
theorem dL_law_1956 : gd cL_law 1956 (.invokevirtual 230) 3 1959 := by decide +kernel
theorem dL_law_1959 : gd cL_law 1959 (.aload_n 2) 1 1960 := by decide +kernel
theorem dL_law_1960 : gd cL_law 1960 (.invokevirtual 233) 3 1963 := by decide +kernel
theorem dL_law_1963 : gb cL_law 1963 (.if_icmp .eq 5) (5) 1966 1968 := by decide +kernel
theorem dL_law_1966 : decode cL_law 1966 = .ok (.iconst 0, 1) ∧ 1966 + 1 = 1967 ∧ Int32.ofInt (0) = (0) := by decide +kernel
theorem dL_law_1967 : gd cL_law 1967 (.ireturn) 1 1968 := by decide +kernel
theorem dL_law_1968 : decode cL_law 1968 = .ok (.iinc 4 7, 3) ∧ 1968 + 3 = 1971 ∧ Int32.ofInt (7) = (7) := by decide +kernel
theorem dL_law_1971 : gb cL_law 1971 (.goto (-1948)) (-1948) 1974 23 := by decide +kernel
theorem dL_law_1974 : decode cL_law 1974 = .ok (.iconst 1, 1) ∧ 1974 + 1 = 1975 ∧ Int32.ofInt (1) = (1) := by decide +kernel
theorem dL_law_1975 : gd cL_law 1975 (.ireturn) 1 1976 := by decide +kernel
