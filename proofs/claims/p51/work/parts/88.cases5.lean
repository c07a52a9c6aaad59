-- ===== the law: cases 43 to 50 =====
theorem f333_1751 : aF 1751 zM333.2.2.2.2.2.2.2 = some (1751, (.aload_n 1), 1, 0, 0) := by decide +kernel
theorem f333_1752 : aF 1752 zM333.2.2.2.2.2.2.2 = some (1752, (.aload_n 0), 1, 0, 0) := by decide +kernel
theorem f333_1753 : aF 1753 zM333.2.2.2.2.2.2.2 = some (1753, (.iload_n 3), 1, 0, 0) := by decide +kernel
theorem f333_1754 : aF 1754 zM333.2.2.2.2.2.2.2 = some (1754, (.iconst 1), 1, 0, 0) := by decide +kernel
theorem f333_1755 : aF 1755 zM333.2.2.2.2.2.2.2 = some (1755, .iadd, 1, 0, 0) := by decide +kernel
theorem f333_1756 : aF 1756 zM333.2.2.2.2.2.2.2 = some (1756, .iaload, 1, 0, 0) := by decide +kernel
theorem f333_1757 : aF 1757 zM333.2.2.2.2.2.2.2 = some (1757, (.invokevirtual 191), 3, 187, 0) := by decide +kernel
theorem f333_1760 : aF 1760 zM333.2.2.2.2.2.2.2 = some (1760, .pop, 1, 0, 0) := by decide +kernel
theorem f333_1761 : aF 1761 zM333.2.2.2.2.2.2.2 = some (1761, (.aload_n 2), 1, 0, 0) := by decide +kernel
theorem f333_1762 : aF 1762 zM333.2.2.2.2.2.2.2 = some (1762, (.aload_n 0), 1, 0, 0) := by decide +kernel
theorem f333_1763 : aF 1763 zM333.2.2.2.2.2.2.2 = some (1763, (.iload_n 3), 1, 0, 0) := by decide +kernel
theorem f333_1764 : aF 1764 zM333.2.2.2.2.2.2.2 = some (1764, (.iconst 1), 1, 0, 0) := by decide +kernel
theorem f333_1765 : aF 1765 zM333.2.2.2.2.2.2.2 = some (1765, .iadd, 1, 0, 0) := by decide +kernel
theorem f333_1766 : aF 1766 zM333.2.2.2.2.2.2.2 = some (1766, .iaload, 1, 0, 0) := by decide +kernel
theorem f333_1767 : aF 1767 zM333.2.2.2.2.2.2.2 = some (1767, (.invokevirtual 194), 3, 317, 0) := by decide +kernel
theorem f333_1770 : aF 1770 zM333.2.2.2.2.2.2.2 = some (1770, .pop, 1, 0, 0) := by decide +kernel
theorem f333_1771 : aF 1771 zM333.2.2.2.2.2.2.2 = some (1771, (.goto 304), 3, 2075, 0) := by decide +kernel
theorem f333_1774 : aF 1774 zM333.2.2.2.2.2.2.2 = some (1774, (.aload_n 1), 1, 0, 0) := by decide +kernel
theorem f333_1775 : aF 1775 zM333.2.2.2.2.2.2.2 = some (1775, (.aload_n 0), 1, 0, 0) := by decide +kernel
theorem f333_1776 : aF 1776 zM333.2.2.2.2.2.2.2 = some (1776, (.iload_n 3), 1, 0, 0) := by decide +kernel
theorem f333_1777 : aF 1777 zM333.2.2.2.2.2.2.2 = some (1777, (.iconst 1), 1, 0, 0) := by decide +kernel
theorem f333_1778 : aF 1778 zM333.2.2.2.2.2.2.2 = some (1778, .iadd, 1, 0, 0) := by decide +kernel
theorem f333_1779 : aF 1779 zM333.2.2.2.2.2.2.2 = some (1779, .iaload, 1, 0, 0) := by decide +kernel
theorem f333_1780 : aF 1780 zM333.2.2.2.2.2.2.2 = some (1780, (.aload_n 0), 1, 0, 0) := by decide +kernel
theorem f333_1781 : aF 1781 zM333.2.2.2.2.2.2.2 = some (1781, (.iload_n 3), 1, 0, 0) := by decide +kernel
theorem f333_1782 : aF 1782 zM333.2.2.2.2.2.2.2 = some (1782, (.iconst 2), 1, 0, 0) := by decide +kernel
theorem f333_1783 : aF 1783 zM333.2.2.2.2.2.2.2 = some (1783, .iadd, 1, 0, 0) := by decide +kernel
theorem f333_1784 : aF 1784 zM333.2.2.2.2.2.2.2 = some (1784, .iaload, 1, 0, 0) := by decide +kernel
theorem f333_1785 : aF 1785 zM333.2.2.2.2.2.2.2 = some (1785, (.invokevirtual 195), 3, 188, 0) := by decide +kernel
theorem f333_1788 : aF 1788 zM333.2.2.2.2.2.2.2 = some (1788, .pop, 1, 0, 0) := by decide +kernel
theorem f333_1789 : aF 1789 zM333.2.2.2.2.2.2.2 = some (1789, (.aload_n 2), 1, 0, 0) := by decide +kernel
theorem f333_1790 : aF 1790 zM333.2.2.2.2.2.2.2 = some (1790, (.aload_n 0), 1, 0, 0) := by decide +kernel
theorem f333_1791 : aF 1791 zM333.2.2.2.2.2.2.2 = some (1791, (.iload_n 3), 1, 0, 0) := by decide +kernel
theorem f333_1792 : aF 1792 zM333.2.2.2.2.2.2.2 = some (1792, (.iconst 1), 1, 0, 0) := by decide +kernel
theorem f333_1793 : aF 1793 zM333.2.2.2.2.2.2.2 = some (1793, .iadd, 1, 0, 0) := by decide +kernel
theorem f333_1794 : aF 1794 zM333.2.2.2.2.2.2.2 = some (1794, .iaload, 1, 0, 0) := by decide +kernel
theorem f333_1795 : aF 1795 zM333.2.2.2.2.2.2.2 = some (1795, (.aload_n 0), 1, 0, 0) := by decide +kernel
theorem f333_1796 : aF 1796 zM333.2.2.2.2.2.2.2 = some (1796, (.iload_n 3), 1, 0, 0) := by decide +kernel
theorem f333_1797 : aF 1797 zM333.2.2.2.2.2.2.2 = some (1797, (.iconst 2), 1, 0, 0) := by decide +kernel
theorem f333_1798 : aF 1798 zM333.2.2.2.2.2.2.2 = some (1798, .iadd, 1, 0, 0) := by decide +kernel
theorem f333_1799 : aF 1799 zM333.2.2.2.2.2.2.2 = some (1799, .iaload, 1, 0, 0) := by decide +kernel
theorem f333_1800 : aF 1800 zM333.2.2.2.2.2.2.2 = some (1800, (.invokevirtual 198), 3, 319, 0) := by decide +kernel
theorem f333_1803 : aF 1803 zM333.2.2.2.2.2.2.2 = some (1803, .pop, 1, 0, 0) := by decide +kernel
theorem f333_1804 : aF 1804 zM333.2.2.2.2.2.2.2 = some (1804, (.goto 271), 3, 2075, 0) := by decide +kernel
theorem f333_1807 : aF 1807 zM333.2.2.2.2.2.2.2 = some (1807, (.aload_n 1), 1, 0, 0) := by decide +kernel
theorem f333_1808 : aF 1808 zM333.2.2.2.2.2.2.2 = some (1808, (.aload_n 0), 1, 0, 0) := by decide +kernel
theorem f333_1809 : aF 1809 zM333.2.2.2.2.2.2.2 = some (1809, (.iload_n 3), 1, 0, 0) := by decide +kernel
theorem f333_1810 : aF 1810 zM333.2.2.2.2.2.2.2 = some (1810, (.iconst 1), 1, 0, 0) := by decide +kernel
theorem f333_1811 : aF 1811 zM333.2.2.2.2.2.2.2 = some (1811, .iadd, 1, 0, 0) := by decide +kernel
theorem f333_1812 : aF 1812 zM333.2.2.2.2.2.2.2 = some (1812, .iaload, 1, 0, 0) := by decide +kernel
theorem f333_1813 : aF 1813 zM333.2.2.2.2.2.2.2 = some (1813, (.aload_n 0), 1, 0, 0) := by decide +kernel
theorem f333_1814 : aF 1814 zM333.2.2.2.2.2.2.2 = some (1814, (.iload_n 3), 1, 0, 0) := by decide +kernel
theorem f333_1815 : aF 1815 zM333.2.2.2.2.2.2.2 = some (1815, (.iconst 2), 1, 0, 0) := by decide +kernel
theorem f333_1816 : aF 1816 zM333.2.2.2.2.2.2.2 = some (1816, .iadd, 1, 0, 0) := by decide +kernel
theorem f333_1817 : aF 1817 zM333.2.2.2.2.2.2.2 = some (1817, .iaload, 1, 0, 0) := by decide +kernel
theorem f333_1818 : aF 1818 zM333.2.2.2.2.2.2.2 = some (1818, (.aload_n 0), 1, 0, 0) := by decide +kernel
theorem f333_1819 : aF 1819 zM333.2.2.2.2.2.2.2 = some (1819, (.iload_n 3), 1, 0, 0) := by decide +kernel
theorem f333_1820 : aF 1820 zM333.2.2.2.2.2.2.2 = some (1820, (.iconst 3), 1, 0, 0) := by decide +kernel
theorem f333_1821 : aF 1821 zM333.2.2.2.2.2.2.2 = some (1821, .iadd, 1, 0, 0) := by decide +kernel
theorem f333_1822 : aF 1822 zM333.2.2.2.2.2.2.2 = some (1822, .iaload, 1, 0, 0) := by decide +kernel
theorem f333_1823 : aF 1823 zM333.2.2.2.2.2.2.2 = some (1823, (.invokevirtual 199), 3, 189, 0) := by decide +kernel
theorem f333_1826 : aF 1826 zM333.2.2.2.2.2.2.2 = some (1826, .pop, 1, 0, 0) := by decide +kernel
theorem f333_1827 : aF 1827 zM333.2.2.2.2.2.2.2 = some (1827, (.aload_n 2), 1, 0, 0) := by decide +kernel
theorem f333_1828 : aF 1828 zM333.2.2.2.2.2.2.2 = some (1828, (.aload_n 0), 1, 0, 0) := by decide +kernel
theorem f333_1829 : aF 1829 zM333.2.2.2.2.2.2.2 = some (1829, (.iload_n 3), 1, 0, 0) := by decide +kernel
theorem f333_1830 : aF 1830 zM333.2.2.2.2.2.2.2 = some (1830, (.iconst 1), 1, 0, 0) := by decide +kernel
theorem f333_1831 : aF 1831 zM333.2.2.2.2.2.2.2 = some (1831, .iadd, 1, 0, 0) := by decide +kernel
theorem f333_1832 : aF 1832 zM333.2.2.2.2.2.2.2 = some (1832, .iaload, 1, 0, 0) := by decide +kernel
theorem f333_1833 : aF 1833 zM333.2.2.2.2.2.2.2 = some (1833, (.aload_n 0), 1, 0, 0) := by decide +kernel
theorem f333_1834 : aF 1834 zM333.2.2.2.2.2.2.2 = some (1834, (.iload_n 3), 1, 0, 0) := by decide +kernel
theorem f333_1835 : aF 1835 zM333.2.2.2.2.2.2.2 = some (1835, (.iconst 2), 1, 0, 0) := by decide +kernel
theorem f333_1836 : aF 1836 zM333.2.2.2.2.2.2.2 = some (1836, .iadd, 1, 0, 0) := by decide +kernel
theorem f333_1837 : aF 1837 zM333.2.2.2.2.2.2.2 = some (1837, .iaload, 1, 0, 0) := by decide +kernel
theorem f333_1838 : aF 1838 zM333.2.2.2.2.2.2.2 = some (1838, (.aload_n 0), 1, 0, 0) := by decide +kernel
theorem f333_1839 : aF 1839 zM333.2.2.2.2.2.2.2 = some (1839, (.iload_n 3), 1, 0, 0) := by decide +kernel
theorem f333_1840 : aF 1840 zM333.2.2.2.2.2.2.2 = some (1840, (.iconst 3), 1, 0, 0) := by decide +kernel
theorem f333_1841 : aF 1841 zM333.2.2.2.2.2.2.2 = some (1841, .iadd, 1, 0, 0) := by decide +kernel
theorem f333_1842 : aF 1842 zM333.2.2.2.2.2.2.2 = some (1842, .iaload, 1, 0, 0) := by decide +kernel
theorem f333_1843 : aF 1843 zM333.2.2.2.2.2.2.2 = some (1843, (.invokevirtual 202), 3, 320, 0) := by decide +kernel
theorem f333_1846 : aF 1846 zM333.2.2.2.2.2.2.2 = some (1846, .pop, 1, 0, 0) := by decide +kernel
theorem f333_1847 : aF 1847 zM333.2.2.2.2.2.2.2 = some (1847, (.goto 228), 3, 2075, 0) := by decide +kernel
theorem f333_1850 : aF 1850 zM333.2.2.2.2.2.2.2 = some (1850, (.aload_n 1), 1, 0, 0) := by decide +kernel
theorem f333_1851 : aF 1851 zM333.2.2.2.2.2.2.2 = some (1851, (.aload_n 0), 1, 0, 0) := by decide +kernel
theorem f333_1852 : aF 1852 zM333.2.2.2.2.2.2.2 = some (1852, (.iload_n 3), 1, 0, 0) := by decide +kernel
theorem f333_1853 : aF 1853 zM333.2.2.2.2.2.2.2 = some (1853, (.iconst 1), 1, 0, 0) := by decide +kernel
theorem f333_1854 : aF 1854 zM333.2.2.2.2.2.2.2 = some (1854, .iadd, 1, 0, 0) := by decide +kernel
theorem f333_1855 : aF 1855 zM333.2.2.2.2.2.2.2 = some (1855, .iaload, 1, 0, 0) := by decide +kernel
theorem f333_1856 : aF 1856 zM333.2.2.2.2.2.2.2 = some (1856, (.aload_n 0), 1, 0, 0) := by decide +kernel
theorem f333_1857 : aF 1857 zM333.2.2.2.2.2.2.2 = some (1857, (.iload_n 3), 1, 0, 0) := by decide +kernel
theorem f333_1858 : aF 1858 zM333.2.2.2.2.2.2.2 = some (1858, (.iconst 2), 1, 0, 0) := by decide +kernel
theorem f333_1859 : aF 1859 zM333.2.2.2.2.2.2.2 = some (1859, .iadd, 1, 0, 0) := by decide +kernel
theorem f333_1860 : aF 1860 zM333.2.2.2.2.2.2.2 = some (1860, .iaload, 1, 0, 0) := by decide +kernel
theorem f333_1861 : aF 1861 zM333.2.2.2.2.2.2.2 = some (1861, (.aload_n 0), 1, 0, 0) := by decide +kernel
theorem f333_1862 : aF 1862 zM333.2.2.2.2.2.2.2 = some (1862, (.iload_n 3), 1, 0, 0) := by decide +kernel
theorem f333_1863 : aF 1863 zM333.2.2.2.2.2.2.2 = some (1863, (.iconst 3), 1, 0, 0) := by decide +kernel
theorem f333_1864 : aF 1864 zM333.2.2.2.2.2.2.2 = some (1864, .iadd, 1, 0, 0) := by decide +kernel
theorem f333_1865 : aF 1865 zM333.2.2.2.2.2.2.2 = some (1865, .iaload, 1, 0, 0) := by decide +kernel
theorem f333_1866 : aF 1866 zM333.2.2.2.2.2.2.2 = some (1866, .i2l, 1, 0, 0) := by decide +kernel
theorem f333_1867 : aF 1867 zM333.2.2.2.2.2.2.2 = some (1867, (.bipush 32), 2, 0, 0) := by decide +kernel
theorem f333_1869 : aF 1869 zM333.2.2.2.2.2.2.2 = some (1869, .lshl, 1, 0, 0) := by decide +kernel
theorem f333_1870 : aF 1870 zM333.2.2.2.2.2.2.2 = some (1870, (.aload_n 0), 1, 0, 0) := by decide +kernel
theorem f333_1871 : aF 1871 zM333.2.2.2.2.2.2.2 = some (1871, (.iload_n 3), 1, 0, 0) := by decide +kernel
theorem f333_1872 : aF 1872 zM333.2.2.2.2.2.2.2 = some (1872, (.iconst 4), 1, 0, 0) := by decide +kernel
theorem f333_1873 : aF 1873 zM333.2.2.2.2.2.2.2 = some (1873, .iadd, 1, 0, 0) := by decide +kernel
theorem f333_1874 : aF 1874 zM333.2.2.2.2.2.2.2 = some (1874, .iaload, 1, 0, 0) := by decide +kernel
theorem f333_1875 : aF 1875 zM333.2.2.2.2.2.2.2 = some (1875, .i2l, 1, 0, 0) := by decide +kernel
theorem f333_1876 : aF 1876 zM333.2.2.2.2.2.2.2 = some (1876, (.ldc2_w 203), 3, 4294967295, 0) := by decide +kernel
theorem f333_1879 : aF 1879 zM333.2.2.2.2.2.2.2 = some (1879, .land, 1, 0, 0) := by decide +kernel
theorem f333_1880 : aF 1880 zM333.2.2.2.2.2.2.2 = some (1880, .lor, 1, 0, 0) := by decide +kernel
theorem f333_1881 : aF 1881 zM333.2.2.2.2.2.2.2 = some (1881, (.invokevirtual 205), 3, 190, 0) := by decide +kernel
theorem f333_1884 : aF 1884 zM333.2.2.2.2.2.2.2 = some (1884, .pop, 1, 0, 0) := by decide +kernel
theorem f333_1885 : aF 1885 zM333.2.2.2.2.2.2.2 = some (1885, (.aload_n 2), 1, 0, 0) := by decide +kernel
theorem f333_1886 : aF 1886 zM333.2.2.2.2.2.2.2 = some (1886, (.aload_n 0), 1, 0, 0) := by decide +kernel
theorem f333_1887 : aF 1887 zM333.2.2.2.2.2.2.2 = some (1887, (.iload_n 3), 1, 0, 0) := by decide +kernel
theorem f333_1888 : aF 1888 zM333.2.2.2.2.2.2.2 = some (1888, (.iconst 1), 1, 0, 0) := by decide +kernel
theorem f333_1889 : aF 1889 zM333.2.2.2.2.2.2.2 = some (1889, .iadd, 1, 0, 0) := by decide +kernel
theorem f333_1890 : aF 1890 zM333.2.2.2.2.2.2.2 = some (1890, .iaload, 1, 0, 0) := by decide +kernel
theorem f333_1891 : aF 1891 zM333.2.2.2.2.2.2.2 = some (1891, (.aload_n 0), 1, 0, 0) := by decide +kernel
theorem f333_1892 : aF 1892 zM333.2.2.2.2.2.2.2 = some (1892, (.iload_n 3), 1, 0, 0) := by decide +kernel
theorem f333_1893 : aF 1893 zM333.2.2.2.2.2.2.2 = some (1893, (.iconst 2), 1, 0, 0) := by decide +kernel
theorem f333_1894 : aF 1894 zM333.2.2.2.2.2.2.2 = some (1894, .iadd, 1, 0, 0) := by decide +kernel
theorem f333_1895 : aF 1895 zM333.2.2.2.2.2.2.2 = some (1895, .iaload, 1, 0, 0) := by decide +kernel
theorem f333_1896 : aF 1896 zM333.2.2.2.2.2.2.2 = some (1896, (.aload_n 0), 1, 0, 0) := by decide +kernel
theorem f333_1897 : aF 1897 zM333.2.2.2.2.2.2.2 = some (1897, (.iload_n 3), 1, 0, 0) := by decide +kernel
theorem f333_1898 : aF 1898 zM333.2.2.2.2.2.2.2 = some (1898, (.iconst 3), 1, 0, 0) := by decide +kernel
theorem f333_1899 : aF 1899 zM333.2.2.2.2.2.2.2 = some (1899, .iadd, 1, 0, 0) := by decide +kernel
theorem f333_1900 : aF 1900 zM333.2.2.2.2.2.2.2 = some (1900, .iaload, 1, 0, 0) := by decide +kernel
theorem f333_1901 : aF 1901 zM333.2.2.2.2.2.2.2 = some (1901, .i2l, 1, 0, 0) := by decide +kernel
theorem f333_1902 : aF 1902 zM333.2.2.2.2.2.2.2 = some (1902, (.bipush 32), 2, 0, 0) := by decide +kernel
theorem f333_1904 : aF 1904 zM333.2.2.2.2.2.2.2 = some (1904, .lshl, 1, 0, 0) := by decide +kernel
theorem f333_1905 : aF 1905 zM333.2.2.2.2.2.2.2 = some (1905, (.aload_n 0), 1, 0, 0) := by decide +kernel
theorem f333_1906 : aF 1906 zM333.2.2.2.2.2.2.2 = some (1906, (.iload_n 3), 1, 0, 0) := by decide +kernel
theorem f333_1907 : aF 1907 zM333.2.2.2.2.2.2.2 = some (1907, (.iconst 4), 1, 0, 0) := by decide +kernel
theorem f333_1908 : aF 1908 zM333.2.2.2.2.2.2.2 = some (1908, .iadd, 1, 0, 0) := by decide +kernel
theorem f333_1909 : aF 1909 zM333.2.2.2.2.2.2.2 = some (1909, .iaload, 1, 0, 0) := by decide +kernel
theorem f333_1910 : aF 1910 zM333.2.2.2.2.2.2.2 = some (1910, .i2l, 1, 0, 0) := by decide +kernel
theorem f333_1911 : aF 1911 zM333.2.2.2.2.2.2.2 = some (1911, (.ldc2_w 203), 3, 4294967295, 0) := by decide +kernel
theorem f333_1914 : aF 1914 zM333.2.2.2.2.2.2.2 = some (1914, .land, 1, 0, 0) := by decide +kernel
theorem f333_1915 : aF 1915 zM333.2.2.2.2.2.2.2 = some (1915, .lor, 1, 0, 0) := by decide +kernel
theorem f333_1916 : aF 1916 zM333.2.2.2.2.2.2.2 = some (1916, (.invokevirtual 209), 3, 322, 0) := by decide +kernel
theorem f333_1919 : aF 1919 zM333.2.2.2.2.2.2.2 = some (1919, .pop, 1, 0, 0) := by decide +kernel
theorem f333_1920 : aF 1920 zM333.2.2.2.2.2.2.2 = some (1920, (.goto 155), 3, 2075, 0) := by decide +kernel
theorem f333_1923 : aF 1923 zM333.2.2.2.2.2.2.2 = some (1923, (.aload_n 1), 1, 0, 0) := by decide +kernel
theorem f333_1924 : aF 1924 zM333.2.2.2.2.2.2.2 = some (1924, (.aload_n 0), 1, 0, 0) := by decide +kernel
theorem f333_1925 : aF 1925 zM333.2.2.2.2.2.2.2 = some (1925, (.iload_n 3), 1, 0, 0) := by decide +kernel
theorem f333_1926 : aF 1926 zM333.2.2.2.2.2.2.2 = some (1926, (.iconst 1), 1, 0, 0) := by decide +kernel
theorem f333_1927 : aF 1927 zM333.2.2.2.2.2.2.2 = some (1927, .iadd, 1, 0, 0) := by decide +kernel
theorem f333_1928 : aF 1928 zM333.2.2.2.2.2.2.2 = some (1928, .iaload, 1, 0, 0) := by decide +kernel
theorem f333_1929 : aF 1929 zM333.2.2.2.2.2.2.2 = some (1929, (.aload_n 0), 1, 0, 0) := by decide +kernel
theorem f333_1930 : aF 1930 zM333.2.2.2.2.2.2.2 = some (1930, (.iload_n 3), 1, 0, 0) := by decide +kernel
theorem f333_1931 : aF 1931 zM333.2.2.2.2.2.2.2 = some (1931, (.iconst 2), 1, 0, 0) := by decide +kernel
theorem f333_1932 : aF 1932 zM333.2.2.2.2.2.2.2 = some (1932, .iadd, 1, 0, 0) := by decide +kernel
theorem f333_1933 : aF 1933 zM333.2.2.2.2.2.2.2 = some (1933, .iaload, 1, 0, 0) := by decide +kernel
theorem f333_1934 : aF 1934 zM333.2.2.2.2.2.2.2 = some (1934, (.invokevirtual 210), 3, 191, 0) := by decide +kernel
theorem f333_1937 : aF 1937 zM333.2.2.2.2.2.2.2 = some (1937, .pop2, 1, 0, 0) := by decide +kernel
theorem f333_1938 : aF 1938 zM333.2.2.2.2.2.2.2 = some (1938, (.aload_n 2), 1, 0, 0) := by decide +kernel
theorem f333_1939 : aF 1939 zM333.2.2.2.2.2.2.2 = some (1939, (.aload_n 0), 1, 0, 0) := by decide +kernel
theorem f333_1940 : aF 1940 zM333.2.2.2.2.2.2.2 = some (1940, (.iload_n 3), 1, 0, 0) := by decide +kernel
theorem f333_1941 : aF 1941 zM333.2.2.2.2.2.2.2 = some (1941, (.iconst 1), 1, 0, 0) := by decide +kernel
theorem f333_1942 : aF 1942 zM333.2.2.2.2.2.2.2 = some (1942, .iadd, 1, 0, 0) := by decide +kernel
theorem f333_1943 : aF 1943 zM333.2.2.2.2.2.2.2 = some (1943, .iaload, 1, 0, 0) := by decide +kernel
theorem f333_1944 : aF 1944 zM333.2.2.2.2.2.2.2 = some (1944, (.aload_n 0), 1, 0, 0) := by decide +kernel
theorem f333_1945 : aF 1945 zM333.2.2.2.2.2.2.2 = some (1945, (.iload_n 3), 1, 0, 0) := by decide +kernel
theorem f333_1946 : aF 1946 zM333.2.2.2.2.2.2.2 = some (1946, (.iconst 2), 1, 0, 0) := by decide +kernel
theorem f333_1947 : aF 1947 zM333.2.2.2.2.2.2.2 = some (1947, .iadd, 1, 0, 0) := by decide +kernel
theorem f333_1948 : aF 1948 zM333.2.2.2.2.2.2.2 = some (1948, .iaload, 1, 0, 0) := by decide +kernel
theorem f333_1949 : aF 1949 zM333.2.2.2.2.2.2.2 = some (1949, (.invokevirtual 214), 3, 323, 0) := by decide +kernel
theorem f333_1952 : aF 1952 zM333.2.2.2.2.2.2.2 = some (1952, .pop2, 1, 0, 0) := by decide +kernel
theorem f333_1953 : aF 1953 zM333.2.2.2.2.2.2.2 = some (1953, (.goto 122), 3, 2075, 0) := by decide +kernel
theorem f333_1956 : aF 1956 zM333.2.2.2.2.2.2.2 = some (1956, (.aload_n 1), 1, 0, 0) := by decide +kernel
theorem f333_1957 : aF 1957 zM333.2.2.2.2.2.2.2 = some (1957, (.aload_n 0), 1, 0, 0) := by decide +kernel
theorem f333_1958 : aF 1958 zM333.2.2.2.2.2.2.2 = some (1958, (.iload_n 3), 1, 0, 0) := by decide +kernel
theorem f333_1959 : aF 1959 zM333.2.2.2.2.2.2.2 = some (1959, (.iconst 1), 1, 0, 0) := by decide +kernel
theorem f333_1960 : aF 1960 zM333.2.2.2.2.2.2.2 = some (1960, .iadd, 1, 0, 0) := by decide +kernel
theorem f333_1961 : aF 1961 zM333.2.2.2.2.2.2.2 = some (1961, .iaload, 1, 0, 0) := by decide +kernel
theorem f333_1962 : aF 1962 zM333.2.2.2.2.2.2.2 = some (1962, (.aload_n 0), 1, 0, 0) := by decide +kernel
theorem f333_1963 : aF 1963 zM333.2.2.2.2.2.2.2 = some (1963, (.iload_n 3), 1, 0, 0) := by decide +kernel
theorem f333_1964 : aF 1964 zM333.2.2.2.2.2.2.2 = some (1964, (.iconst 2), 1, 0, 0) := by decide +kernel
theorem f333_1965 : aF 1965 zM333.2.2.2.2.2.2.2 = some (1965, .iadd, 1, 0, 0) := by decide +kernel
theorem f333_1966 : aF 1966 zM333.2.2.2.2.2.2.2 = some (1966, .iaload, 1, 0, 0) := by decide +kernel
theorem f333_1967 : aF 1967 zM333.2.2.2.2.2.2.2 = some (1967, (.aload_n 0), 1, 0, 0) := by decide +kernel
theorem f333_1968 : aF 1968 zM333.2.2.2.2.2.2.2 = some (1968, (.iload_n 3), 1, 0, 0) := by decide +kernel
theorem f333_1969 : aF 1969 zM333.2.2.2.2.2.2.2 = some (1969, (.iconst 3), 1, 0, 0) := by decide +kernel
theorem f333_1970 : aF 1970 zM333.2.2.2.2.2.2.2 = some (1970, .iadd, 1, 0, 0) := by decide +kernel
theorem f333_1971 : aF 1971 zM333.2.2.2.2.2.2.2 = some (1971, .iaload, 1, 0, 0) := by decide +kernel
theorem f333_1972 : aF 1972 zM333.2.2.2.2.2.2.2 = some (1972, (.aload_n 0), 1, 0, 0) := by decide +kernel
theorem f333_1973 : aF 1973 zM333.2.2.2.2.2.2.2 = some (1973, (.iload_n 3), 1, 0, 0) := by decide +kernel
theorem f333_1974 : aF 1974 zM333.2.2.2.2.2.2.2 = some (1974, (.iconst 4), 1, 0, 0) := by decide +kernel
theorem f333_1975 : aF 1975 zM333.2.2.2.2.2.2.2 = some (1975, .iadd, 1, 0, 0) := by decide +kernel
theorem f333_1976 : aF 1976 zM333.2.2.2.2.2.2.2 = some (1976, .iaload, 1, 0, 0) := by decide +kernel
theorem f333_1977 : aF 1977 zM333.2.2.2.2.2.2.2 = some (1977, (.aload_n 0), 1, 0, 0) := by decide +kernel
theorem f333_1978 : aF 1978 zM333.2.2.2.2.2.2.2 = some (1978, (.iload_n 3), 1, 0, 0) := by decide +kernel
theorem f333_1979 : aF 1979 zM333.2.2.2.2.2.2.2 = some (1979, (.iconst 5), 1, 0, 0) := by decide +kernel
theorem f333_1980 : aF 1980 zM333.2.2.2.2.2.2.2 = some (1980, .iadd, 1, 0, 0) := by decide +kernel
theorem f333_1981 : aF 1981 zM333.2.2.2.2.2.2.2 = some (1981, .iaload, 1, 0, 0) := by decide +kernel
theorem f333_1982 : aF 1982 zM333.2.2.2.2.2.2.2 = some (1982, (.invokevirtual 215), 3, 192, 0) := by decide +kernel
theorem f333_1985 : aF 1985 zM333.2.2.2.2.2.2.2 = some (1985, .pop, 1, 0, 0) := by decide +kernel
theorem f333_1986 : aF 1986 zM333.2.2.2.2.2.2.2 = some (1986, (.aload_n 2), 1, 0, 0) := by decide +kernel
theorem f333_1987 : aF 1987 zM333.2.2.2.2.2.2.2 = some (1987, (.aload_n 0), 1, 0, 0) := by decide +kernel
theorem f333_1988 : aF 1988 zM333.2.2.2.2.2.2.2 = some (1988, (.iload_n 3), 1, 0, 0) := by decide +kernel
theorem f333_1989 : aF 1989 zM333.2.2.2.2.2.2.2 = some (1989, (.iconst 1), 1, 0, 0) := by decide +kernel
theorem f333_1990 : aF 1990 zM333.2.2.2.2.2.2.2 = some (1990, .iadd, 1, 0, 0) := by decide +kernel
theorem f333_1991 : aF 1991 zM333.2.2.2.2.2.2.2 = some (1991, .iaload, 1, 0, 0) := by decide +kernel
theorem f333_1992 : aF 1992 zM333.2.2.2.2.2.2.2 = some (1992, (.aload_n 0), 1, 0, 0) := by decide +kernel
theorem f333_1993 : aF 1993 zM333.2.2.2.2.2.2.2 = some (1993, (.iload_n 3), 1, 0, 0) := by decide +kernel
theorem f333_1994 : aF 1994 zM333.2.2.2.2.2.2.2 = some (1994, (.iconst 2), 1, 0, 0) := by decide +kernel
theorem f333_1995 : aF 1995 zM333.2.2.2.2.2.2.2 = some (1995, .iadd, 1, 0, 0) := by decide +kernel
theorem f333_1996 : aF 1996 zM333.2.2.2.2.2.2.2 = some (1996, .iaload, 1, 0, 0) := by decide +kernel
theorem f333_1997 : aF 1997 zM333.2.2.2.2.2.2.2 = some (1997, (.aload_n 0), 1, 0, 0) := by decide +kernel
theorem f333_1998 : aF 1998 zM333.2.2.2.2.2.2.2 = some (1998, (.iload_n 3), 1, 0, 0) := by decide +kernel
theorem f333_1999 : aF 1999 zM333.2.2.2.2.2.2.2 = some (1999, (.iconst 3), 1, 0, 0) := by decide +kernel
theorem f333_2000 : aF 2000 zM333.2.2.2.2.2.2.2 = some (2000, .iadd, 1, 0, 0) := by decide +kernel
theorem f333_2001 : aF 2001 zM333.2.2.2.2.2.2.2 = some (2001, .iaload, 1, 0, 0) := by decide +kernel
theorem f333_2002 : aF 2002 zM333.2.2.2.2.2.2.2 = some (2002, (.aload_n 0), 1, 0, 0) := by decide +kernel
theorem f333_2003 : aF 2003 zM333.2.2.2.2.2.2.2 = some (2003, (.iload_n 3), 1, 0, 0) := by decide +kernel
theorem f333_2004 : aF 2004 zM333.2.2.2.2.2.2.2 = some (2004, (.iconst 4), 1, 0, 0) := by decide +kernel
theorem f333_2005 : aF 2005 zM333.2.2.2.2.2.2.2 = some (2005, .iadd, 1, 0, 0) := by decide +kernel
theorem f333_2006 : aF 2006 zM333.2.2.2.2.2.2.2 = some (2006, .iaload, 1, 0, 0) := by decide +kernel
theorem f333_2007 : aF 2007 zM333.2.2.2.2.2.2.2 = some (2007, (.aload_n 0), 1, 0, 0) := by decide +kernel
theorem f333_2008 : aF 2008 zM333.2.2.2.2.2.2.2 = some (2008, (.iload_n 3), 1, 0, 0) := by decide +kernel
theorem f333_2009 : aF 2009 zM333.2.2.2.2.2.2.2 = some (2009, (.iconst 5), 1, 0, 0) := by decide +kernel
theorem f333_2010 : aF 2010 zM333.2.2.2.2.2.2.2 = some (2010, .iadd, 1, 0, 0) := by decide +kernel
theorem f333_2011 : aF 2011 zM333.2.2.2.2.2.2.2 = some (2011, .iaload, 1, 0, 0) := by decide +kernel
theorem f333_2012 : aF 2012 zM333.2.2.2.2.2.2.2 = some (2012, (.invokevirtual 218), 3, 324, 0) := by decide +kernel
theorem f333_2015 : aF 2015 zM333.2.2.2.2.2.2.2 = some (2015, .pop, 1, 0, 0) := by decide +kernel
theorem f333_2016 : aF 2016 zM333.2.2.2.2.2.2.2 = some (2016, (.goto 59), 3, 2075, 0) := by decide +kernel
theorem f333_2019 : aF 2019 zM333.2.2.2.2.2.2.2 = some (2019, (.aload_n 1), 1, 0, 0) := by decide +kernel
theorem f333_2020 : aF 2020 zM333.2.2.2.2.2.2.2 = some (2020, (.aload_n 0), 1, 0, 0) := by decide +kernel
theorem f333_2021 : aF 2021 zM333.2.2.2.2.2.2.2 = some (2021, (.iload_n 3), 1, 0, 0) := by decide +kernel
theorem f333_2022 : aF 2022 zM333.2.2.2.2.2.2.2 = some (2022, (.iconst 1), 1, 0, 0) := by decide +kernel
theorem f333_2023 : aF 2023 zM333.2.2.2.2.2.2.2 = some (2023, .iadd, 1, 0, 0) := by decide +kernel
theorem f333_2024 : aF 2024 zM333.2.2.2.2.2.2.2 = some (2024, .iaload, 1, 0, 0) := by decide +kernel
theorem f333_2025 : aF 2025 zM333.2.2.2.2.2.2.2 = some (2025, (.aload_n 0), 1, 0, 0) := by decide +kernel
theorem f333_2026 : aF 2026 zM333.2.2.2.2.2.2.2 = some (2026, (.iload_n 3), 1, 0, 0) := by decide +kernel
theorem f333_2027 : aF 2027 zM333.2.2.2.2.2.2.2 = some (2027, (.iconst 2), 1, 0, 0) := by decide +kernel
theorem f333_2028 : aF 2028 zM333.2.2.2.2.2.2.2 = some (2028, .iadd, 1, 0, 0) := by decide +kernel
theorem f333_2029 : aF 2029 zM333.2.2.2.2.2.2.2 = some (2029, .iaload, 1, 0, 0) := by decide +kernel
theorem f333_2030 : aF 2030 zM333.2.2.2.2.2.2.2 = some (2030, (.invokevirtual 219), 3, 193, 0) := by decide +kernel
theorem f333_2033 : aF 2033 zM333.2.2.2.2.2.2.2 = some (2033, (.aload_n 2), 1, 0, 0) := by decide +kernel
theorem f333_2034 : aF 2034 zM333.2.2.2.2.2.2.2 = some (2034, (.aload_n 0), 1, 0, 0) := by decide +kernel
theorem f333_2035 : aF 2035 zM333.2.2.2.2.2.2.2 = some (2035, (.iload_n 3), 1, 0, 0) := by decide +kernel
theorem f333_2036 : aF 2036 zM333.2.2.2.2.2.2.2 = some (2036, (.iconst 1), 1, 0, 0) := by decide +kernel
theorem f333_2037 : aF 2037 zM333.2.2.2.2.2.2.2 = some (2037, .iadd, 1, 0, 0) := by decide +kernel
theorem f333_2038 : aF 2038 zM333.2.2.2.2.2.2.2 = some (2038, .iaload, 1, 0, 0) := by decide +kernel
theorem f333_2039 : aF 2039 zM333.2.2.2.2.2.2.2 = some (2039, (.aload_n 0), 1, 0, 0) := by decide +kernel
theorem f333_2040 : aF 2040 zM333.2.2.2.2.2.2.2 = some (2040, (.iload_n 3), 1, 0, 0) := by decide +kernel
theorem f333_2041 : aF 2041 zM333.2.2.2.2.2.2.2 = some (2041, (.iconst 2), 1, 0, 0) := by decide +kernel
theorem f333_2042 : aF 2042 zM333.2.2.2.2.2.2.2 = some (2042, .iadd, 1, 0, 0) := by decide +kernel
theorem f333_2043 : aF 2043 zM333.2.2.2.2.2.2.2 = some (2043, .iaload, 1, 0, 0) := by decide +kernel
theorem f333_2044 : aF 2044 zM333.2.2.2.2.2.2.2 = some (2044, (.invokevirtual 222), 3, 325, 0) := by decide +kernel
theorem f333_2047 : aF 2047 zM333.2.2.2.2.2.2.2 = some (2047, (.if_icmp .eq 28), 3, 2075, 0) := by decide +kernel
theorem f333_2052 : aF 2052 zM333.2.2.2.2.2.2.2 = some (2052, (.aload_n 1), 1, 0, 0) := by decide +kernel
theorem f333_2053 : aF 2053 zM333.2.2.2.2.2.2.2 = some (2053, (.aload_n 0), 1, 0, 0) := by decide +kernel
theorem f333_2054 : aF 2054 zM333.2.2.2.2.2.2.2 = some (2054, (.iload_n 3), 1, 0, 0) := by decide +kernel
theorem f333_2055 : aF 2055 zM333.2.2.2.2.2.2.2 = some (2055, (.iconst 1), 1, 0, 0) := by decide +kernel
theorem f333_2056 : aF 2056 zM333.2.2.2.2.2.2.2 = some (2056, .iadd, 1, 0, 0) := by decide +kernel
theorem f333_2057 : aF 2057 zM333.2.2.2.2.2.2.2 = some (2057, .iaload, 1, 0, 0) := by decide +kernel
theorem f333_2058 : aF 2058 zM333.2.2.2.2.2.2.2 = some (2058, (.invokevirtual 223), 3, 194, 0) := by decide +kernel
theorem f333_2061 : aF 2061 zM333.2.2.2.2.2.2.2 = some (2061, .pop, 1, 0, 0) := by decide +kernel
theorem f333_2062 : aF 2062 zM333.2.2.2.2.2.2.2 = some (2062, (.aload_n 2), 1, 0, 0) := by decide +kernel
theorem f333_2063 : aF 2063 zM333.2.2.2.2.2.2.2 = some (2063, (.aload_n 0), 1, 0, 0) := by decide +kernel
theorem f333_2064 : aF 2064 zM333.2.2.2.2.2.2.2 = some (2064, (.iload_n 3), 1, 0, 0) := by decide +kernel
theorem f333_2065 : aF 2065 zM333.2.2.2.2.2.2.2 = some (2065, (.iconst 1), 1, 0, 0) := by decide +kernel
theorem f333_2066 : aF 2066 zM333.2.2.2.2.2.2.2 = some (2066, .iadd, 1, 0, 0) := by decide +kernel
theorem f333_2067 : aF 2067 zM333.2.2.2.2.2.2.2 = some (2067, .iaload, 1, 0, 0) := by decide +kernel
theorem f333_2068 : aF 2068 zM333.2.2.2.2.2.2.2 = some (2068, (.invokevirtual 226), 3, 327, 0) := by decide +kernel
theorem f333_2071 : aF 2071 zM333.2.2.2.2.2.2.2 = some (2071, .pop, 1, 0, 0) := by decide +kernel
theorem f333_2072 : aF 2072 zM333.2.2.2.2.2.2.2 = some (2072, (.goto 3), 3, 2075, 0) := by decide +kernel
theorem lc_43 {X : aX} (G : hG X 302) (hX : X 0 = some (8, zab)) {L : Nat} {xs : Nat → Int32} (hX1 : X 1 = some (L, xs)) (hL : L ≤ 3072) {i : Int32} (i0 : 0 ≤ i.toInt) (i1 : i.toInt + 6 ≤ L) {Q : Option Value → aH → Prop} {σ : List Nat} {h : aH} (I : dI σ h) (J : JX h) (kq : ∀ (σ' : List Nat) (h' : aH), dI σ' h' → JX h' → dPh h' ≤ dPh h → Wp X 64 zM333 Q 2075 [some (.retAddr 1), some (.ref 0), some (.ref 72), some (.int i)] [] h') : Wp X 64 zM333 Q 1751 [some (.retAddr 1), some (.ref 0), some (.ref 72), some (.int i)] [] h := by
  obtain ⟨J, K⟩ := J
  refine wp1 (fun n d => r_aloadn f333_1751 rfl) ?_
  refine wp1 (fun n d => r_aloadnX f333_1752 rfl) ?_
  refine wp1 (fun n d => r_iloadn f333_1753 rfl) ?_
  refine w_iconst f333_1754 (fun v1754 hv1754 => ?_)
  refine w_iadd f333_1755 (by omega) (by omega) (fun v1755 hv1755 => ?_)
  refine w_xld f333_1756 hX1 (by omega) (by omega) (fun v1756 hv1756 => ?_)
  obtain ⟨fs1002, c1002⟩ := hI_o I (r := 0) (ci := 11) (by decide +kernel)
  refine wp_good (G 278 (by decide) cC278 rfl) (Y := zM187) (show zmt[187]? = some zM187 from rfl) I (ρ := [0, v1756.toInt]) (dK_v (kV_of rfl ⟨⟨by decide, by decide⟩, iR v1756, trivial⟩)) (dL_of (l := [some (.ref 0), some (.int v1756)]) ⟨lw_r (by decide), lw_i rfl, trivial⟩) (fun n d v h' e => r_virt (as := [.int v1756]) (r := []) f333_1757 c1002 (show zmt[187]? = some zM187 from rfl) rfl rfl rfl rfl rfl rfl e) (by first | decide | (show 1 + 1 ≤ _; omega)) (fun v h1001 σ1001 I1001 G1001 P1001 => ?_)
  obtain ⟨v1757, vq1757⟩ : ∃ y : Int32, v = some (.int y) := by
    obtain ⟨P, hm, ρ', rh', kP, sP⟩ := P1001
    cases List.mem_singleton.mp hm
    cases v with
    | none => exact sP.elim
    | some v =>
      obtain ⟨⟨x, y, rfl, -, -⟩, -⟩ := sP
      exact ⟨x, rfl⟩
  subst vq1757
  show Wp _ _ _ _ 1760 [some (.retAddr 1), some (.ref 0), some (.ref 72), some (.int i)] [.int v1757] _
  obtain ⟨fs1003, c1003, df1003⟩ := dG_o I.1 G1001 c1002 (by decide)
  refine wp1 (fun nn dd => r_pop f333_1760 rfl) ?_
  refine wp1 (fun n d => r_aloadn f333_1761 rfl) ?_
  refine wp1 (fun n d => r_aloadnX f333_1762 rfl) ?_
  refine wp1 (fun n d => r_iloadn f333_1763 rfl) ?_
  refine w_iconst f333_1764 (fun v1764 hv1764 => ?_)
  refine w_iadd f333_1765 (by omega) (by omega) (fun v1765 hv1765 => ?_)
  refine w_xld f333_1766 hX1 (by omega) (by omega) (fun v1766 hv1766 => ?_)
  obtain ⟨fs1005, c1005⟩ := hI_o I1001 (r := 72) (ci := 12) (by decide +kernel)
  refine wp_good (G 279 (by decide) cC279 rfl) (Y := zM317) (show zmt[317]? = some zM317 from rfl) I1001 (ρ := [0, v1766.toInt]) (dK_v (kV_of rfl ⟨⟨by decide, by decide⟩, iR v1766, trivial⟩)) (dL_of (l := [some (.ref 72), some (.int v1766)]) ⟨lw_r (by decide), lw_i rfl, trivial⟩) (fun n d v h' e => r_virt (as := [.int v1766]) (r := []) f333_1767 c1005 (show zmt[317]? = some zM317 from rfl) rfl rfl rfl rfl rfl rfl e) (by first | decide | (show 0 + 1 ≤ _; omega)) (fun v h1004 σ1004 I1004 G1004 P1004 => ?_)
  obtain ⟨v1767, vq1767⟩ : ∃ y : Int32, v = some (.int y) := by
    obtain ⟨P, hm, ρ', rh', kP, sP⟩ := P1004
    cases List.mem_singleton.mp hm
    cases v with
    | none => exact sP.elim
    | some v =>
      obtain ⟨⟨x, y, rfl, -, -⟩, -⟩ := sP
      exact ⟨x, rfl⟩
  subst vq1767
  show Wp _ _ _ _ 1770 [some (.retAddr 1), some (.ref 0), some (.ref 72), some (.int i)] [.int v1767] _
  obtain ⟨fs1006, c1006, df1006⟩ := dG_o I1001.1 G1004 c1003 (by decide)
  obtain ⟨fs1007, c1007, df1007⟩ := dG_o I1001.1 G1004 c1005 (by decide)
  have GG : dG ([] : List (Nat × Nat)) σ h σ1004 h1004 := (dG_trans (dG_sub (by decide) G1001) (dG_sub (by decide) G1004))
  refine wp1 (fun nn dd => r_pop f333_1770 rfl) ?_
  refine wp1 (fun nn dd => r_goto f333_1771) ?_
  exact kq _ _ I1004 ⟨JQ_dG J I GG (by decide), JRing_dG K.1 I GG (by decide), JBody_dG K.2.1 I GG (by decide), JShelf_dG K.2.2 I GG (by decide)⟩ GG.2.2
theorem lc_44 {X : aX} (G : hG X 302) (hX : X 0 = some (8, zab)) {L : Nat} {xs : Nat → Int32} (hX1 : X 1 = some (L, xs)) (hL : L ≤ 3072) {i : Int32} (i0 : 0 ≤ i.toInt) (i1 : i.toInt + 6 ≤ L) {Q : Option Value → aH → Prop} {σ : List Nat} {h : aH} (I : dI σ h) (J : JX h) (kq : ∀ (σ' : List Nat) (h' : aH), dI σ' h' → JX h' → dPh h' ≤ dPh h → Wp X 64 zM333 Q 2075 [some (.retAddr 1), some (.ref 0), some (.ref 72), some (.int i)] [] h') : Wp X 64 zM333 Q 1774 [some (.retAddr 1), some (.ref 0), some (.ref 72), some (.int i)] [] h := by
  obtain ⟨J, K⟩ := J
  refine wp1 (fun n d => r_aloadn f333_1774 rfl) ?_
  refine wp1 (fun n d => r_aloadnX f333_1775 rfl) ?_
  refine wp1 (fun n d => r_iloadn f333_1776 rfl) ?_
  refine w_iconst f333_1777 (fun v1777 hv1777 => ?_)
  refine w_iadd f333_1778 (by omega) (by omega) (fun v1778 hv1778 => ?_)
  refine w_xld f333_1779 hX1 (by omega) (by omega) (fun v1779 hv1779 => ?_)
  refine wp1 (fun n d => r_aloadnX f333_1780 rfl) ?_
  refine wp1 (fun n d => r_iloadn f333_1781 rfl) ?_
  refine w_iconst f333_1782 (fun v1782 hv1782 => ?_)
  refine w_iadd f333_1783 (by omega) (by omega) (fun v1783 hv1783 => ?_)
  refine w_xld f333_1784 hX1 (by omega) (by omega) (fun v1784 hv1784 => ?_)
  obtain ⟨fs1002, c1002⟩ := hI_o I (r := 0) (ci := 11) (by decide +kernel)
  refine wp_goodQ (G 282 (by decide) cC282 rfl) (Y := zM188) (show zmt[188]? = some zM188 from rfl) I (ρ := [0, v1779.toInt, v1784.toInt]) (dK_v (kV_of rfl ⟨⟨by decide, by decide⟩, iR v1779, iR v1784, trivial⟩)) (dL_of (l := [some (.ref 0), some (.int v1779), some (.int v1784)]) ⟨lw_r (by decide), lw_i rfl, lw_i rfl, trivial⟩) (fun n => c_188 (wS_dI I) rfl rfl) (fun n d v h' e => r_virt (as := [.int v1779, .int v1784]) (r := []) f333_1785 c1002 (show zmt[188]? = some zM188 from rfl) rfl rfl rfl rfl rfl rfl e) (by first | decide | (show 4 + 1 ≤ _; omega)) (fun v h1001 σ1001 I1001 G1001 P1001 Qq1001 => ?_)
  obtain ⟨v1785, rfl, R1001⟩ := Qq1001
  show Wp _ _ _ _ 1788 [some (.retAddr 1), some (.ref 0), some (.ref 72), some (.int i)] [.int v1785] _
  obtain ⟨fs1003, c1003, df1003⟩ := dG_o I.1 G1001 c1002 (by decide)
  refine wp1 (fun nn dd => r_pop f333_1788 rfl) ?_
  refine wp1 (fun n d => r_aloadn f333_1789 rfl) ?_
  refine wp1 (fun n d => r_aloadnX f333_1790 rfl) ?_
  refine wp1 (fun n d => r_iloadn f333_1791 rfl) ?_
  refine w_iconst f333_1792 (fun v1792 hv1792 => ?_)
  refine w_iadd f333_1793 (by omega) (by omega) (fun v1793 hv1793 => ?_)
  refine w_xld f333_1794 hX1 (by omega) (by omega) (fun v1794 hv1794 => ?_)
  refine wp1 (fun n d => r_aloadnX f333_1795 rfl) ?_
  refine wp1 (fun n d => r_iloadn f333_1796 rfl) ?_
  refine w_iconst f333_1797 (fun v1797 hv1797 => ?_)
  refine w_iadd f333_1798 (by omega) (by omega) (fun v1798 hv1798 => ?_)
  refine w_xld f333_1799 hX1 (by omega) (by omega) (fun v1799 hv1799 => ?_)
  obtain ⟨fs1005, c1005⟩ := hI_o I1001 (r := 72) (ci := 12) (by decide +kernel)
  refine wp_goodQ (G 283 (by decide) cC283 rfl) (Y := zM319) (show zmt[319]? = some zM319 from rfl) I1001 (ρ := [0, v1794.toInt, v1799.toInt]) (dK_v (kV_of rfl ⟨⟨by decide, by decide⟩, iR v1794, iR v1799, trivial⟩)) (dL_of (l := [some (.ref 72), some (.int v1794), some (.int v1799)]) ⟨lw_r (by decide), lw_i rfl, lw_i rfl, trivial⟩) (fun n => c_319 (wS_dI I1001) rfl rfl) (fun n d v h' e => r_virt (as := [.int v1794, .int v1799]) (r := []) f333_1800 c1005 (show zmt[319]? = some zM319 from rfl) rfl rfl rfl rfl rfl rfl e) (by first | decide | (show 2 + 1 ≤ _; omega)) (fun v h1004 σ1004 I1004 G1004 P1004 Qq1004 => ?_)
  obtain ⟨v1800, rfl, R1004⟩ := Qq1004
  show Wp _ _ _ _ 1803 [some (.retAddr 1), some (.ref 0), some (.ref 72), some (.int i)] [.int v1800] _
  obtain ⟨fs1006, c1006, df1006⟩ := dG_o I1001.1 G1004 c1003 (by decide)
  obtain ⟨fs1007, c1007, df1007⟩ := dG_o I1001.1 G1004 c1005 (by decide)
  have ev1794 : v1794 = v1779 := by rw [hv1794, hv1779]; exact congrArg xs (by omega)
  have ev1799 : v1799 = v1784 := by rw [hv1799, hv1784]; exact congrArg xs (by omega)
  rw [ev1794, ev1799] at R1004
  have Z := jx_44 K.2.1 K.2.2 R1001 R1004
  have GG : dG ([(69, 0), (70, 0), (142, 0)] : List (Nat × Nat)) σ h σ1004 h1004 := (dG_trans (dG_sub (by decide) G1001) (dG_sub (by decide) G1004))
  refine wp1 (fun nn dd => r_pop f333_1803 rfl) ?_
  refine wp1 (fun nn dd => r_goto f333_1804) ?_
  exact kq _ _ I1004 ⟨JQ_dG J I GG (by decide), JRing_dG K.1 I GG (by decide), JBody_dG K.2.1 I GG (by decide), Z.1⟩ GG.2.2
theorem lc_45 {X : aX} (G : hG X 302) (hX : X 0 = some (8, zab)) {L : Nat} {xs : Nat → Int32} (hX1 : X 1 = some (L, xs)) (hL : L ≤ 3072) {i : Int32} (i0 : 0 ≤ i.toInt) (i1 : i.toInt + 6 ≤ L) {Q : Option Value → aH → Prop} {σ : List Nat} {h : aH} (I : dI σ h) (J : JX h) (kq : ∀ (σ' : List Nat) (h' : aH), dI σ' h' → JX h' → dPh h' ≤ dPh h → Wp X 64 zM333 Q 2075 [some (.retAddr 1), some (.ref 0), some (.ref 72), some (.int i)] [] h') : Wp X 64 zM333 Q 1807 [some (.retAddr 1), some (.ref 0), some (.ref 72), some (.int i)] [] h := by
  obtain ⟨J, K⟩ := J
  refine wp1 (fun n d => r_aloadn f333_1807 rfl) ?_
  refine wp1 (fun n d => r_aloadnX f333_1808 rfl) ?_
  refine wp1 (fun n d => r_iloadn f333_1809 rfl) ?_
  refine w_iconst f333_1810 (fun v1810 hv1810 => ?_)
  refine w_iadd f333_1811 (by omega) (by omega) (fun v1811 hv1811 => ?_)
  refine w_xld f333_1812 hX1 (by omega) (by omega) (fun v1812 hv1812 => ?_)
  refine wp1 (fun n d => r_aloadnX f333_1813 rfl) ?_
  refine wp1 (fun n d => r_iloadn f333_1814 rfl) ?_
  refine w_iconst f333_1815 (fun v1815 hv1815 => ?_)
  refine w_iadd f333_1816 (by omega) (by omega) (fun v1816 hv1816 => ?_)
  refine w_xld f333_1817 hX1 (by omega) (by omega) (fun v1817 hv1817 => ?_)
  refine wp1 (fun n d => r_aloadnX f333_1818 rfl) ?_
  refine wp1 (fun n d => r_iloadn f333_1819 rfl) ?_
  refine w_iconst f333_1820 (fun v1820 hv1820 => ?_)
  refine w_iadd f333_1821 (by omega) (by omega) (fun v1821 hv1821 => ?_)
  refine w_xld f333_1822 hX1 (by omega) (by omega) (fun v1822 hv1822 => ?_)
  obtain ⟨fs1002, c1002⟩ := hI_o I (r := 0) (ci := 11) (by decide +kernel)
  refine wp_goodQ (G 285 (by decide) cC285 rfl) (Y := zM189) (show zmt[189]? = some zM189 from rfl) I (ρ := [0, v1812.toInt, v1817.toInt, v1822.toInt]) (dK_v (kV_of rfl ⟨⟨by decide, by decide⟩, iR v1812, iR v1817, iR v1822, trivial⟩)) (dL_of (l := [some (.ref 0), some (.int v1812), some (.int v1817), some (.int v1822)]) ⟨lw_r (by decide), lw_i rfl, lw_i rfl, lw_i rfl, trivial⟩) (fun n => c_189 (wS_dI I) rfl rfl rfl) (fun n d v h' e => r_virt (as := [.int v1812, .int v1817, .int v1822]) (r := []) f333_1823 c1002 (show zmt[189]? = some zM189 from rfl) rfl rfl rfl rfl rfl rfl e) (by first | decide | (show 6 + 1 ≤ _; omega)) (fun v h1001 σ1001 I1001 G1001 P1001 Qq1001 => ?_)
  obtain ⟨v1823, rfl, R1001⟩ := Qq1001
  show Wp _ _ _ _ 1826 [some (.retAddr 1), some (.ref 0), some (.ref 72), some (.int i)] [.int v1823] _
  obtain ⟨fs1003, c1003, df1003⟩ := dG_o I.1 G1001 c1002 (by decide)
  refine wp1 (fun nn dd => r_pop f333_1826 rfl) ?_
  refine wp1 (fun n d => r_aloadn f333_1827 rfl) ?_
  refine wp1 (fun n d => r_aloadnX f333_1828 rfl) ?_
  refine wp1 (fun n d => r_iloadn f333_1829 rfl) ?_
  refine w_iconst f333_1830 (fun v1830 hv1830 => ?_)
  refine w_iadd f333_1831 (by omega) (by omega) (fun v1831 hv1831 => ?_)
  refine w_xld f333_1832 hX1 (by omega) (by omega) (fun v1832 hv1832 => ?_)
  refine wp1 (fun n d => r_aloadnX f333_1833 rfl) ?_
  refine wp1 (fun n d => r_iloadn f333_1834 rfl) ?_
  refine w_iconst f333_1835 (fun v1835 hv1835 => ?_)
  refine w_iadd f333_1836 (by omega) (by omega) (fun v1836 hv1836 => ?_)
  refine w_xld f333_1837 hX1 (by omega) (by omega) (fun v1837 hv1837 => ?_)
  refine wp1 (fun n d => r_aloadnX f333_1838 rfl) ?_
  refine wp1 (fun n d => r_iloadn f333_1839 rfl) ?_
  refine w_iconst f333_1840 (fun v1840 hv1840 => ?_)
  refine w_iadd f333_1841 (by omega) (by omega) (fun v1841 hv1841 => ?_)
  refine w_xld f333_1842 hX1 (by omega) (by omega) (fun v1842 hv1842 => ?_)
  obtain ⟨fs1005, c1005⟩ := hI_o I1001 (r := 72) (ci := 12) (by decide +kernel)
  refine wp_goodQ (G 286 (by decide) cC286 rfl) (Y := zM320) (show zmt[320]? = some zM320 from rfl) I1001 (ρ := [0, v1832.toInt, v1837.toInt, v1842.toInt]) (dK_v (kV_of rfl ⟨⟨by decide, by decide⟩, iR v1832, iR v1837, iR v1842, trivial⟩)) (dL_of (l := [some (.ref 72), some (.int v1832), some (.int v1837), some (.int v1842), none]) ⟨lw_r (by decide), lw_i rfl, lw_i rfl, lw_i rfl, lw_0, trivial⟩) (fun n => c_320 (wS_dI I1001) rfl rfl rfl) (fun n d v h' e => r_virt (as := [.int v1832, .int v1837, .int v1842]) (r := []) f333_1843 c1005 (show zmt[320]? = some zM320 from rfl) rfl rfl rfl rfl rfl rfl e) (by first | decide | (show 2 + 1 ≤ _; omega)) (fun v h1004 σ1004 I1004 G1004 P1004 Qq1004 => ?_)
  obtain ⟨v1843, rfl, R1004⟩ := Qq1004
  show Wp _ _ _ _ 1846 [some (.retAddr 1), some (.ref 0), some (.ref 72), some (.int i)] [.int v1843] _
  obtain ⟨fs1006, c1006, df1006⟩ := dG_o I1001.1 G1004 c1003 (by decide)
  obtain ⟨fs1007, c1007, df1007⟩ := dG_o I1001.1 G1004 c1005 (by decide)
  have ev1832 : v1832 = v1812 := by rw [hv1832, hv1812]; exact congrArg xs (by omega)
  have ev1837 : v1837 = v1817 := by rw [hv1837, hv1817]; exact congrArg xs (by omega)
  have ev1842 : v1842 = v1822 := by rw [hv1842, hv1822]; exact congrArg xs (by omega)
  rw [ev1832, ev1837, ev1842] at R1004
  have Z := jx_45 K.2.2 R1001 R1004
  have GG : dG ([(69, 0), (70, 0), (71, 0), (142, 0), (143, 0), (144, 0)] : List (Nat × Nat)) σ h σ1004 h1004 := (dG_trans (dG_sub (by decide) G1001) (dG_sub (by decide) G1004))
  refine wp1 (fun nn dd => r_pop f333_1846 rfl) ?_
  refine wp1 (fun nn dd => r_goto f333_1847) ?_
  exact kq _ _ I1004 ⟨JQ_dG J I GG (by decide), JRing_dG K.1 I GG (by decide), JBody_dG K.2.1 I GG (by decide), Z.1⟩ GG.2.2
theorem lc_46 {X : aX} (G : hG X 302) (hX : X 0 = some (8, zab)) {L : Nat} {xs : Nat → Int32} (hX1 : X 1 = some (L, xs)) (hL : L ≤ 3072) {i : Int32} (i0 : 0 ≤ i.toInt) (i1 : i.toInt + 6 ≤ L) {Q : Option Value → aH → Prop} {σ : List Nat} {h : aH} (I : dI σ h) (J : JX h) (kq : ∀ (σ' : List Nat) (h' : aH), dI σ' h' → JX h' → dPh h' ≤ dPh h → Wp X 64 zM333 Q 2075 [some (.retAddr 1), some (.ref 0), some (.ref 72), some (.int i)] [] h') : Wp X 64 zM333 Q 1850 [some (.retAddr 1), some (.ref 0), some (.ref 72), some (.int i)] [] h := by
  obtain ⟨J, K⟩ := J
  refine wp1 (fun n d => r_aloadn f333_1850 rfl) ?_
  refine wp1 (fun n d => r_aloadnX f333_1851 rfl) ?_
  refine wp1 (fun n d => r_iloadn f333_1852 rfl) ?_
  refine w_iconst f333_1853 (fun v1853 hv1853 => ?_)
  refine w_iadd f333_1854 (by omega) (by omega) (fun v1854 hv1854 => ?_)
  refine w_xld f333_1855 hX1 (by omega) (by omega) (fun v1855 hv1855 => ?_)
  refine wp1 (fun n d => r_aloadnX f333_1856 rfl) ?_
  refine wp1 (fun n d => r_iloadn f333_1857 rfl) ?_
  refine w_iconst f333_1858 (fun v1858 hv1858 => ?_)
  refine w_iadd f333_1859 (by omega) (by omega) (fun v1859 hv1859 => ?_)
  refine w_xld f333_1860 hX1 (by omega) (by omega) (fun v1860 hv1860 => ?_)
  refine wp1 (fun n d => r_aloadnX f333_1861 rfl) ?_
  refine wp1 (fun n d => r_iloadn f333_1862 rfl) ?_
  refine w_iconst f333_1863 (fun v1863 hv1863 => ?_)
  refine w_iadd f333_1864 (by omega) (by omega) (fun v1864 hv1864 => ?_)
  refine w_xld f333_1865 hX1 (by omega) (by omega) (fun v1865 hv1865 => ?_)
  refine w_i2l f333_1866 (fun v1866 hv1866 => ?_)
  refine w_bipush f333_1867 (fun v1867 hv1867 => ?_)
  refine w_lshlv f333_1869 (fun v1869 hv1869 => ?_)
  refine wp1 (fun n d => r_aloadnX f333_1870 rfl) ?_
  refine wp1 (fun n d => r_iloadn f333_1871 rfl) ?_
  refine w_iconst f333_1872 (fun v1872 hv1872 => ?_)
  refine w_iadd f333_1873 (by omega) (by omega) (fun v1873 hv1873 => ?_)
  refine w_xld f333_1874 hX1 (by omega) (by omega) (fun v1874 hv1874 => ?_)
  refine w_i2l f333_1875 (fun v1875 hv1875 => ?_)
  refine w_ldc2 f333_1876 (fun v1876 hv1876 => ?_)
  have hv1876 : v1876.toInt = 4294967295 := hv1876
  refine w_landv f333_1879 (fun v1879 hv1879 => ?_)
  refine w_lorv f333_1880 (fun v1880 hv1880 => ?_)
  obtain ⟨fs1002, c1002⟩ := hI_o I (r := 0) (ci := 11) (by decide +kernel)
  refine wp_goodQ (G 287 (by decide) cC287 rfl) (Y := zM190) (show zmt[190]? = some zM190 from rfl) I (ρ := [0, v1855.toInt, v1860.toInt, v1880.toInt]) (dK_v (kV_of rfl ⟨⟨by decide, by decide⟩, iR v1855, iR v1860, jR v1880, trivial⟩)) (dL_of (l := [some (.ref 0), some (.int v1855), some (.int v1860), some (.long v1880), none]) ⟨lw_r (by decide), lw_i rfl, lw_i rfl, lw_j rfl, lw_0, trivial⟩) (fun n => c_190 (wS_dI I) rfl rfl rfl (vb70' I)) (fun n d v h' e => r_virt (as := [.int v1855, .int v1860, .long v1880]) (r := []) f333_1881 c1002 (show zmt[190]? = some zM190 from rfl) rfl rfl rfl rfl rfl rfl e) (by first | decide | (show 3 + 1 ≤ _; omega)) (fun v h1001 σ1001 I1001 G1001 P1001 Qq1001 => ?_)
  obtain ⟨v1881, rfl, R1001⟩ := Qq1001
  show Wp _ _ _ _ 1884 [some (.retAddr 1), some (.ref 0), some (.ref 72), some (.int i)] [.int v1881] _
  obtain ⟨fs1003, c1003, df1003⟩ := dG_o I.1 G1001 c1002 (by decide)
  refine wp1 (fun nn dd => r_pop f333_1884 rfl) ?_
  refine wp1 (fun n d => r_aloadn f333_1885 rfl) ?_
  refine wp1 (fun n d => r_aloadnX f333_1886 rfl) ?_
  refine wp1 (fun n d => r_iloadn f333_1887 rfl) ?_
  refine w_iconst f333_1888 (fun v1888 hv1888 => ?_)
  refine w_iadd f333_1889 (by omega) (by omega) (fun v1889 hv1889 => ?_)
  refine w_xld f333_1890 hX1 (by omega) (by omega) (fun v1890 hv1890 => ?_)
  refine wp1 (fun n d => r_aloadnX f333_1891 rfl) ?_
  refine wp1 (fun n d => r_iloadn f333_1892 rfl) ?_
  refine w_iconst f333_1893 (fun v1893 hv1893 => ?_)
  refine w_iadd f333_1894 (by omega) (by omega) (fun v1894 hv1894 => ?_)
  refine w_xld f333_1895 hX1 (by omega) (by omega) (fun v1895 hv1895 => ?_)
  refine wp1 (fun n d => r_aloadnX f333_1896 rfl) ?_
  refine wp1 (fun n d => r_iloadn f333_1897 rfl) ?_
  refine w_iconst f333_1898 (fun v1898 hv1898 => ?_)
  refine w_iadd f333_1899 (by omega) (by omega) (fun v1899 hv1899 => ?_)
  refine w_xld f333_1900 hX1 (by omega) (by omega) (fun v1900 hv1900 => ?_)
  refine w_i2l f333_1901 (fun v1901 hv1901 => ?_)
  refine w_bipush f333_1902 (fun v1902 hv1902 => ?_)
  refine w_lshlv f333_1904 (fun v1904 hv1904 => ?_)
  refine wp1 (fun n d => r_aloadnX f333_1905 rfl) ?_
  refine wp1 (fun n d => r_iloadn f333_1906 rfl) ?_
  refine w_iconst f333_1907 (fun v1907 hv1907 => ?_)
  refine w_iadd f333_1908 (by omega) (by omega) (fun v1908 hv1908 => ?_)
  refine w_xld f333_1909 hX1 (by omega) (by omega) (fun v1909 hv1909 => ?_)
  refine w_i2l f333_1910 (fun v1910 hv1910 => ?_)
  refine w_ldc2 f333_1911 (fun v1911 hv1911 => ?_)
  have hv1911 : v1911.toInt = 4294967295 := hv1911
  refine w_landv f333_1914 (fun v1914 hv1914 => ?_)
  refine w_lorv f333_1915 (fun v1915 hv1915 => ?_)
  obtain ⟨fs1005, c1005⟩ := hI_o I1001 (r := 72) (ci := 12) (by decide +kernel)
  refine wp_goodQ (G 288 (by decide) cC288 rfl) (Y := zM322) (show zmt[322]? = some zM322 from rfl) I1001 (ρ := [0, v1890.toInt, v1895.toInt, v1915.toInt]) (dK_v (kV_of rfl ⟨⟨by decide, by decide⟩, iR v1890, iR v1895, jR v1915, trivial⟩)) (dL_of (l := [some (.ref 72), some (.int v1890), some (.int v1895), some (.long v1915), none, none, none]) ⟨lw_r (by decide), lw_i rfl, lw_i rfl, lw_j rfl, lw_0, lw_0, lw_0, trivial⟩) (fun n => c_322 (wS_dI I1001) rfl rfl rfl (vb143 I1001)) (fun n d v h' e => r_virt (as := [.int v1890, .int v1895, .long v1915]) (r := []) f333_1916 c1005 (show zmt[322]? = some zM322 from rfl) rfl rfl rfl rfl rfl rfl e) (by first | decide | (show 3 + 1 ≤ _; omega)) (fun v h1004 σ1004 I1004 G1004 P1004 Qq1004 => ?_)
  obtain ⟨v1916, rfl, R1004⟩ := Qq1004
  show Wp _ _ _ _ 1919 [some (.retAddr 1), some (.ref 0), some (.ref 72), some (.int i)] [.int v1916] _
  obtain ⟨fs1006, c1006, df1006⟩ := dG_o I1001.1 G1004 c1003 (by decide)
  obtain ⟨fs1007, c1007, df1007⟩ := dG_o I1001.1 G1004 c1005 (by decide)
  have ev1890 : v1890 = v1855 := by rw [hv1890, hv1855]; exact congrArg xs (by omega)
  have ev1895 : v1895 = v1860 := by rw [hv1895, hv1860]; exact congrArg xs (by omega)
  have ev1900 : v1900 = v1865 := by rw [hv1900, hv1865]; exact congrArg xs (by omega)
  have ev1901 : v1901 = v1866 := b_j.mpr (by rw [hv1901, hv1866, ev1900])
  have ev1902 : v1902 = v1867 := b_i.mpr (hv1902.trans hv1867.symm)
  have ev1904 : v1904 = v1869 := by rw [hv1904, hv1869, ev1901, ev1902]
  have ev1909 : v1909 = v1874 := by rw [hv1909, hv1874]; exact congrArg xs (by omega)
  have ev1910 : v1910 = v1875 := b_j.mpr (by rw [hv1910, hv1875, ev1909])
  have ev1911 : v1911 = v1876 := b_j.mpr (hv1911.trans hv1876.symm)
  have ev1914 : v1914 = v1879 := by rw [hv1914, hv1879, ev1910, ev1911]
  have ev1915 : v1915 = v1880 := by rw [hv1915, hv1880, ev1904, ev1914]
  rw [ev1890, ev1895, ev1915] at R1004
  have Z := jx_46 K.2.2 R1001 R1004
  have GG : dG ([(71, 0), (144, 0)] : List (Nat × Nat)) σ h σ1004 h1004 := (dG_trans (dG_sub (by decide) G1001) (dG_sub (by decide) G1004))
  refine wp1 (fun nn dd => r_pop f333_1919 rfl) ?_
  refine wp1 (fun nn dd => r_goto f333_1920) ?_
  exact kq _ _ I1004 ⟨JQ_dG J I GG (by decide), JRing_dG K.1 I GG (by decide), JBody_dG K.2.1 I GG (by decide), Z.1⟩ GG.2.2
theorem lc_47 {X : aX} (G : hG X 302) (hX : X 0 = some (8, zab)) {L : Nat} {xs : Nat → Int32} (hX1 : X 1 = some (L, xs)) (hL : L ≤ 3072) {i : Int32} (i0 : 0 ≤ i.toInt) (i1 : i.toInt + 6 ≤ L) {Q : Option Value → aH → Prop} {σ : List Nat} {h : aH} (I : dI σ h) (J : JX h) (kq : ∀ (σ' : List Nat) (h' : aH), dI σ' h' → JX h' → dPh h' ≤ dPh h → Wp X 64 zM333 Q 2075 [some (.retAddr 1), some (.ref 0), some (.ref 72), some (.int i)] [] h') : Wp X 64 zM333 Q 1923 [some (.retAddr 1), some (.ref 0), some (.ref 72), some (.int i)] [] h := by
  obtain ⟨J, K⟩ := J
  refine wp1 (fun n d => r_aloadn f333_1923 rfl) ?_
  refine wp1 (fun n d => r_aloadnX f333_1924 rfl) ?_
  refine wp1 (fun n d => r_iloadn f333_1925 rfl) ?_
  refine w_iconst f333_1926 (fun v1926 hv1926 => ?_)
  refine w_iadd f333_1927 (by omega) (by omega) (fun v1927 hv1927 => ?_)
  refine w_xld f333_1928 hX1 (by omega) (by omega) (fun v1928 hv1928 => ?_)
  refine wp1 (fun n d => r_aloadnX f333_1929 rfl) ?_
  refine wp1 (fun n d => r_iloadn f333_1930 rfl) ?_
  refine w_iconst f333_1931 (fun v1931 hv1931 => ?_)
  refine w_iadd f333_1932 (by omega) (by omega) (fun v1932 hv1932 => ?_)
  refine w_xld f333_1933 hX1 (by omega) (by omega) (fun v1933 hv1933 => ?_)
  obtain ⟨fs1002, c1002⟩ := hI_o I (r := 0) (ci := 11) (by decide +kernel)
  refine wp_good (G 289 (by decide) cC289 rfl) (Y := zM191) (show zmt[191]? = some zM191 from rfl) I (ρ := [0, v1928.toInt, v1933.toInt]) (dK_v (kV_of rfl ⟨⟨by decide, by decide⟩, iR v1928, iR v1933, trivial⟩)) (dL_of (l := [some (.ref 0), some (.int v1928), some (.int v1933)]) ⟨lw_r (by decide), lw_i rfl, lw_i rfl, trivial⟩) (fun n d v h' e => r_virt (as := [.int v1928, .int v1933]) (r := []) f333_1934 c1002 (show zmt[191]? = some zM191 from rfl) rfl rfl rfl rfl rfl rfl e) (by first | decide | (show 3 + 1 ≤ _; omega)) (fun v h1001 σ1001 I1001 G1001 P1001 => ?_)
  obtain ⟨v1934, vq1934⟩ : ∃ y : Int64, v = some (.long y) := by
    obtain ⟨P, hm, ρ', rh', kP, sP⟩ := P1001
    cases List.mem_singleton.mp hm
    cases v with
    | none => exact sP.elim
    | some v =>
      obtain ⟨⟨x, y, rfl, -, -⟩, -⟩ := sP
      exact ⟨x, rfl⟩
  subst vq1934
  show Wp _ _ _ _ 1937 [some (.retAddr 1), some (.ref 0), some (.ref 72), some (.int i)] [.long v1934] _
  obtain ⟨fs1003, c1003, df1003⟩ := dG_o I.1 G1001 c1002 (by decide)
  refine wp1 (fun nn dd => r_pop2 f333_1937) ?_
  refine wp1 (fun n d => r_aloadn f333_1938 rfl) ?_
  refine wp1 (fun n d => r_aloadnX f333_1939 rfl) ?_
  refine wp1 (fun n d => r_iloadn f333_1940 rfl) ?_
  refine w_iconst f333_1941 (fun v1941 hv1941 => ?_)
  refine w_iadd f333_1942 (by omega) (by omega) (fun v1942 hv1942 => ?_)
  refine w_xld f333_1943 hX1 (by omega) (by omega) (fun v1943 hv1943 => ?_)
  refine wp1 (fun n d => r_aloadnX f333_1944 rfl) ?_
  refine wp1 (fun n d => r_iloadn f333_1945 rfl) ?_
  refine w_iconst f333_1946 (fun v1946 hv1946 => ?_)
  refine w_iadd f333_1947 (by omega) (by omega) (fun v1947 hv1947 => ?_)
  refine w_xld f333_1948 hX1 (by omega) (by omega) (fun v1948 hv1948 => ?_)
  obtain ⟨fs1005, c1005⟩ := hI_o I1001 (r := 72) (ci := 12) (by decide +kernel)
  refine wp_good (G 290 (by decide) cC290 rfl) (Y := zM323) (show zmt[323]? = some zM323 from rfl) I1001 (ρ := [0, v1943.toInt, v1948.toInt]) (dK_v (kV_of rfl ⟨⟨by decide, by decide⟩, iR v1943, iR v1948, trivial⟩)) (dL_of (l := [some (.ref 72), some (.int v1943), some (.int v1948)]) ⟨lw_r (by decide), lw_i rfl, lw_i rfl, trivial⟩) (fun n d v h' e => r_virt (as := [.int v1943, .int v1948]) (r := []) f333_1949 c1005 (show zmt[323]? = some zM323 from rfl) rfl rfl rfl rfl rfl rfl e) (by first | decide | (show 3 + 1 ≤ _; omega)) (fun v h1004 σ1004 I1004 G1004 P1004 => ?_)
  obtain ⟨v1949, vq1949⟩ : ∃ y : Int64, v = some (.long y) := by
    obtain ⟨P, hm, ρ', rh', kP, sP⟩ := P1004
    cases List.mem_singleton.mp hm
    cases v with
    | none => exact sP.elim
    | some v =>
      obtain ⟨⟨x, y, rfl, -, -⟩, -⟩ := sP
      exact ⟨x, rfl⟩
  subst vq1949
  show Wp _ _ _ _ 1952 [some (.retAddr 1), some (.ref 0), some (.ref 72), some (.int i)] [.long v1949] _
  obtain ⟨fs1006, c1006, df1006⟩ := dG_o I1001.1 G1004 c1003 (by decide)
  obtain ⟨fs1007, c1007, df1007⟩ := dG_o I1001.1 G1004 c1005 (by decide)
  have GG : dG ([] : List (Nat × Nat)) σ h σ1004 h1004 := (dG_trans (dG_sub (by decide) G1001) (dG_sub (by decide) G1004))
  refine wp1 (fun nn dd => r_pop2 f333_1952) ?_
  refine wp1 (fun nn dd => r_goto f333_1953) ?_
  exact kq _ _ I1004 ⟨JQ_dG J I GG (by decide), JRing_dG K.1 I GG (by decide), JBody_dG K.2.1 I GG (by decide), JShelf_dG K.2.2 I GG (by decide)⟩ GG.2.2
theorem lc_48 {X : aX} (G : hG X 302) (hX : X 0 = some (8, zab)) {L : Nat} {xs : Nat → Int32} (hX1 : X 1 = some (L, xs)) (hL : L ≤ 3072) {i : Int32} (i0 : 0 ≤ i.toInt) (i1 : i.toInt + 6 ≤ L) {Q : Option Value → aH → Prop} {σ : List Nat} {h : aH} (I : dI σ h) (J : JX h) (kq : ∀ (σ' : List Nat) (h' : aH), dI σ' h' → JX h' → dPh h' ≤ dPh h → Wp X 64 zM333 Q 2075 [some (.retAddr 1), some (.ref 0), some (.ref 72), some (.int i)] [] h') : Wp X 64 zM333 Q 1956 [some (.retAddr 1), some (.ref 0), some (.ref 72), some (.int i)] [] h := by
  obtain ⟨J, K⟩ := J
  refine wp1 (fun n d => r_aloadn f333_1956 rfl) ?_
  refine wp1 (fun n d => r_aloadnX f333_1957 rfl) ?_
  refine wp1 (fun n d => r_iloadn f333_1958 rfl) ?_
  refine w_iconst f333_1959 (fun v1959 hv1959 => ?_)
  refine w_iadd f333_1960 (by omega) (by omega) (fun v1960 hv1960 => ?_)
  refine w_xld f333_1961 hX1 (by omega) (by omega) (fun v1961 hv1961 => ?_)
  refine wp1 (fun n d => r_aloadnX f333_1962 rfl) ?_
  refine wp1 (fun n d => r_iloadn f333_1963 rfl) ?_
  refine w_iconst f333_1964 (fun v1964 hv1964 => ?_)
  refine w_iadd f333_1965 (by omega) (by omega) (fun v1965 hv1965 => ?_)
  refine w_xld f333_1966 hX1 (by omega) (by omega) (fun v1966 hv1966 => ?_)
  refine wp1 (fun n d => r_aloadnX f333_1967 rfl) ?_
  refine wp1 (fun n d => r_iloadn f333_1968 rfl) ?_
  refine w_iconst f333_1969 (fun v1969 hv1969 => ?_)
  refine w_iadd f333_1970 (by omega) (by omega) (fun v1970 hv1970 => ?_)
  refine w_xld f333_1971 hX1 (by omega) (by omega) (fun v1971 hv1971 => ?_)
  refine wp1 (fun n d => r_aloadnX f333_1972 rfl) ?_
  refine wp1 (fun n d => r_iloadn f333_1973 rfl) ?_
  refine w_iconst f333_1974 (fun v1974 hv1974 => ?_)
  refine w_iadd f333_1975 (by omega) (by omega) (fun v1975 hv1975 => ?_)
  refine w_xld f333_1976 hX1 (by omega) (by omega) (fun v1976 hv1976 => ?_)
  refine wp1 (fun n d => r_aloadnX f333_1977 rfl) ?_
  refine wp1 (fun n d => r_iloadn f333_1978 rfl) ?_
  refine w_iconst f333_1979 (fun v1979 hv1979 => ?_)
  refine w_iadd f333_1980 (by omega) (by omega) (fun v1980 hv1980 => ?_)
  refine w_xld f333_1981 hX1 (by omega) (by omega) (fun v1981 hv1981 => ?_)
  obtain ⟨fs1002, c1002⟩ := hI_o I (r := 0) (ci := 11) (by decide +kernel)
  refine wp_goodQ (G 292 (by decide) cC292 rfl) (Y := zM192) (show zmt[192]? = some zM192 from rfl) I (ρ := [0, v1961.toInt, v1966.toInt, v1971.toInt, v1976.toInt, v1981.toInt]) (dK_v (kV_of rfl ⟨⟨by decide, by decide⟩, iR v1961, iR v1966, iR v1971, iR v1976, iR v1981, trivial⟩)) (dL_of (l := [some (.ref 0), some (.int v1961), some (.int v1966), some (.int v1971), some (.int v1976), some (.int v1981)]) ⟨lw_r (by decide), lw_i rfl, lw_i rfl, lw_i rfl, lw_i rfl, lw_i rfl, trivial⟩) (fun n => c_192 (wS_dI I) rfl rfl rfl rfl rfl (vb70 I)) (fun n d v h' e => r_virt (as := [.int v1961, .int v1966, .int v1971, .int v1976, .int v1981]) (r := []) f333_1982 c1002 (show zmt[192]? = some zM192 from rfl) rfl rfl rfl rfl rfl rfl e) (by first | decide | (show 6 + 1 ≤ _; omega)) (fun v h1001 σ1001 I1001 G1001 P1001 Qq1001 => ?_)
  obtain ⟨v1982, rfl, R1001⟩ := Qq1001
  show Wp _ _ _ _ 1985 [some (.retAddr 1), some (.ref 0), some (.ref 72), some (.int i)] [.int v1982] _
  obtain ⟨fs1003, c1003, df1003⟩ := dG_o I.1 G1001 c1002 (by decide)
  refine wp1 (fun nn dd => r_pop f333_1985 rfl) ?_
  refine wp1 (fun n d => r_aloadn f333_1986 rfl) ?_
  refine wp1 (fun n d => r_aloadnX f333_1987 rfl) ?_
  refine wp1 (fun n d => r_iloadn f333_1988 rfl) ?_
  refine w_iconst f333_1989 (fun v1989 hv1989 => ?_)
  refine w_iadd f333_1990 (by omega) (by omega) (fun v1990 hv1990 => ?_)
  refine w_xld f333_1991 hX1 (by omega) (by omega) (fun v1991 hv1991 => ?_)
  refine wp1 (fun n d => r_aloadnX f333_1992 rfl) ?_
  refine wp1 (fun n d => r_iloadn f333_1993 rfl) ?_
  refine w_iconst f333_1994 (fun v1994 hv1994 => ?_)
  refine w_iadd f333_1995 (by omega) (by omega) (fun v1995 hv1995 => ?_)
  refine w_xld f333_1996 hX1 (by omega) (by omega) (fun v1996 hv1996 => ?_)
  refine wp1 (fun n d => r_aloadnX f333_1997 rfl) ?_
  refine wp1 (fun n d => r_iloadn f333_1998 rfl) ?_
  refine w_iconst f333_1999 (fun v1999 hv1999 => ?_)
  refine w_iadd f333_2000 (by omega) (by omega) (fun v2000 hv2000 => ?_)
  refine w_xld f333_2001 hX1 (by omega) (by omega) (fun v2001 hv2001 => ?_)
  refine wp1 (fun n d => r_aloadnX f333_2002 rfl) ?_
  refine wp1 (fun n d => r_iloadn f333_2003 rfl) ?_
  refine w_iconst f333_2004 (fun v2004 hv2004 => ?_)
  refine w_iadd f333_2005 (by omega) (by omega) (fun v2005 hv2005 => ?_)
  refine w_xld f333_2006 hX1 (by omega) (by omega) (fun v2006 hv2006 => ?_)
  refine wp1 (fun n d => r_aloadnX f333_2007 rfl) ?_
  refine wp1 (fun n d => r_iloadn f333_2008 rfl) ?_
  refine w_iconst f333_2009 (fun v2009 hv2009 => ?_)
  refine w_iadd f333_2010 (by omega) (by omega) (fun v2010 hv2010 => ?_)
  refine w_xld f333_2011 hX1 (by omega) (by omega) (fun v2011 hv2011 => ?_)
  obtain ⟨fs1005, c1005⟩ := hI_o I1001 (r := 72) (ci := 12) (by decide +kernel)
  refine wp_goodQ (G 293 (by decide) cC293 rfl) (Y := zM324) (show zmt[324]? = some zM324 from rfl) I1001 (ρ := [0, v1991.toInt, v1996.toInt, v2001.toInt, v2006.toInt, v2011.toInt]) (dK_v (kV_of rfl ⟨⟨by decide, by decide⟩, iR v1991, iR v1996, iR v2001, iR v2006, iR v2011, trivial⟩)) (dL_of (l := [some (.ref 72), some (.int v1991), some (.int v1996), some (.int v2001), some (.int v2006), some (.int v2011), none]) ⟨lw_r (by decide), lw_i rfl, lw_i rfl, lw_i rfl, lw_i rfl, lw_i rfl, lw_0, trivial⟩) (fun n => c_324 (wS_dI I1001) rfl rfl rfl rfl rfl (vb143 I1001)) (fun n d v h' e => r_virt (as := [.int v1991, .int v1996, .int v2001, .int v2006, .int v2011]) (r := []) f333_2012 c1005 (show zmt[324]? = some zM324 from rfl) rfl rfl rfl rfl rfl rfl e) (by first | decide | (show 30 + 1 ≤ _; omega)) (fun v h1004 σ1004 I1004 G1004 P1004 Qq1004 => ?_)
  obtain ⟨v2012, rfl, R1004⟩ := Qq1004
  show Wp _ _ _ _ 2015 [some (.retAddr 1), some (.ref 0), some (.ref 72), some (.int i)] [.int v2012] _
  obtain ⟨fs1006, c1006, df1006⟩ := dG_o I1001.1 G1004 c1003 (by decide)
  obtain ⟨fs1007, c1007, df1007⟩ := dG_o I1001.1 G1004 c1005 (by decide)
  have ev1991 : v1991 = v1961 := by rw [hv1991, hv1961]; exact congrArg xs (by omega)
  have ev1996 : v1996 = v1966 := by rw [hv1996, hv1966]; exact congrArg xs (by omega)
  have ev2001 : v2001 = v1971 := by rw [hv2001, hv1971]; exact congrArg xs (by omega)
  have ev2006 : v2006 = v1976 := by rw [hv2006, hv1976]; exact congrArg xs (by omega)
  have ev2011 : v2011 = v1981 := by rw [hv2011, hv1981]; exact congrArg xs (by omega)
  rw [ev1991, ev1996, ev2001, ev2006, ev2011] at R1004
  have Z := jx_48 K.2.2 R1001 R1004
  have GG : dG ([(71, 0), (144, 0), (145, 0)] : List (Nat × Nat)) σ h σ1004 h1004 := (dG_trans (dG_sub (by decide) G1001) (dG_sub (by decide) G1004))
  refine wp1 (fun nn dd => r_pop f333_2015 rfl) ?_
  refine wp1 (fun nn dd => r_goto f333_2016) ?_
  exact kq _ _ I1004 ⟨JQ_dG J I GG (by decide), JRing_dG K.1 I GG (by decide), JBody_dG K.2.1 I GG (by decide), Z.1⟩ GG.2.2
theorem lc_49 {X : aX} (G : hG X 302) (hX : X 0 = some (8, zab)) {L : Nat} {xs : Nat → Int32} (hX1 : X 1 = some (L, xs)) (hL : L ≤ 3072) {i : Int32} (i0 : 0 ≤ i.toInt) (i1 : i.toInt + 6 ≤ L) {Q : Option Value → aH → Prop} {σ : List Nat} {h : aH} (I : dI σ h) (J : JX h) (kq : ∀ (σ' : List Nat) (h' : aH), dI σ' h' → JX h' → dPh h' ≤ dPh h → Wp X 64 zM333 Q 2075 [some (.retAddr 1), some (.ref 0), some (.ref 72), some (.int i)] [] h') : Wp X 64 zM333 Q 2019 [some (.retAddr 1), some (.ref 0), some (.ref 72), some (.int i)] [] h := by
  obtain ⟨J, K⟩ := J
  refine wp1 (fun n d => r_aloadn f333_2019 rfl) ?_
  refine wp1 (fun n d => r_aloadnX f333_2020 rfl) ?_
  refine wp1 (fun n d => r_iloadn f333_2021 rfl) ?_
  refine w_iconst f333_2022 (fun v2022 hv2022 => ?_)
  refine w_iadd f333_2023 (by omega) (by omega) (fun v2023 hv2023 => ?_)
  refine w_xld f333_2024 hX1 (by omega) (by omega) (fun v2024 hv2024 => ?_)
  refine wp1 (fun n d => r_aloadnX f333_2025 rfl) ?_
  refine wp1 (fun n d => r_iloadn f333_2026 rfl) ?_
  refine w_iconst f333_2027 (fun v2027 hv2027 => ?_)
  refine w_iadd f333_2028 (by omega) (by omega) (fun v2028 hv2028 => ?_)
  refine w_xld f333_2029 hX1 (by omega) (by omega) (fun v2029 hv2029 => ?_)
  obtain ⟨fs1002, c1002⟩ := hI_o I (r := 0) (ci := 11) (by decide +kernel)
  refine wp_goodQ (G 295 (by decide) cC295 rfl) (Y := zM193) (show zmt[193]? = some zM193 from rfl) I (ρ := [0, v2024.toInt, v2029.toInt]) (dK_v (kV_of rfl ⟨⟨by decide, by decide⟩, iR v2024, iR v2029, trivial⟩)) (dL_of (l := [some (.ref 0), some (.int v2024), some (.int v2029), none, none]) ⟨lw_r (by decide), lw_i rfl, lw_i rfl, lw_0, lw_0, trivial⟩) (fun n => c_193 (wS_dI I) hX rfl rfl (vb2 I)) (fun n d v h' e => r_virt (as := [.int v2024, .int v2029]) (r := []) f333_2030 c1002 (show zmt[193]? = some zM193 from rfl) rfl rfl rfl rfl rfl rfl e) (by first | decide | (show 2 + 1 ≤ _; omega)) (fun v h1001 σ1001 I1001 G1001 P1001 Qq1001 => ?_)
  obtain ⟨v2030, rfl, R1001⟩ := Qq1001
  show Wp _ _ _ _ 2033 [some (.retAddr 1), some (.ref 0), some (.ref 72), some (.int i)] [.int v2030] _
  obtain ⟨fs1003, c1003, df1003⟩ := dG_o I.1 G1001 c1002 (by decide)
  obtain ⟨hh, R1001⟩ := R1001
  have hh := hh.symm
  subst hh
  refine wp1 (fun n d => r_aloadn f333_2033 rfl) ?_
  refine wp1 (fun n d => r_aloadnX f333_2034 rfl) ?_
  refine wp1 (fun n d => r_iloadn f333_2035 rfl) ?_
  refine w_iconst f333_2036 (fun v2036 hv2036 => ?_)
  refine w_iadd f333_2037 (by omega) (by omega) (fun v2037 hv2037 => ?_)
  refine w_xld f333_2038 hX1 (by omega) (by omega) (fun v2038 hv2038 => ?_)
  refine wp1 (fun n d => r_aloadnX f333_2039 rfl) ?_
  refine wp1 (fun n d => r_iloadn f333_2040 rfl) ?_
  refine w_iconst f333_2041 (fun v2041 hv2041 => ?_)
  refine w_iadd f333_2042 (by omega) (by omega) (fun v2042 hv2042 => ?_)
  refine w_xld f333_2043 hX1 (by omega) (by omega) (fun v2043 hv2043 => ?_)
  obtain ⟨fs1005, c1005⟩ := hI_o I1001 (r := 72) (ci := 12) (by decide +kernel)
  refine wp_goodQ (G 296 (by decide) cC296 rfl) (Y := zM325) (show zmt[325]? = some zM325 from rfl) I1001 (ρ := [0, v2038.toInt, v2043.toInt]) (dK_v (kV_of rfl ⟨⟨by decide, by decide⟩, iR v2038, iR v2043, trivial⟩)) (dL_of (l := [some (.ref 72), some (.int v2038), some (.int v2043)]) ⟨lw_r (by decide), lw_i rfl, lw_i rfl, trivial⟩) (fun n => c_325 (wS_dI I1001) rfl rfl) (fun n d v h' e => r_virt (as := [.int v2038, .int v2043]) (r := [.int v2030]) f333_2044 c1005 (show zmt[325]? = some zM325 from rfl) rfl rfl rfl rfl rfl rfl e) (by first | decide | (show 2 + 1 ≤ _; omega)) (fun v h1004 σ1004 I1004 G1004 P1004 Qq1004 => ?_)
  obtain ⟨v2044, rfl, R1004⟩ := Qq1004
  show Wp _ _ _ _ 2047 [some (.retAddr 1), some (.ref 0), some (.ref 72), some (.int i)] [.int v2044, .int v2030] _
  obtain ⟨fs1006, c1006, df1006⟩ := dG_o I1001.1 G1004 c1003 (by decide)
  obtain ⟨fs1007, c1007, df1007⟩ := dG_o I1001.1 G1004 c1005 (by decide)
  obtain ⟨hh, R1004⟩ := R1004
  have hh := hh.symm
  subst hh
  have ev2038 : v2038 = v2024 := by rw [hv2038, hv2024]; exact congrArg xs (by omega)
  have ev2043 : v2043 = v2029 := by rw [hv2043, hv2029]; exact congrArg xs (by omega)
  rw [ev2038, ev2043] at R1004
  have Z := jx_49 K.2.1 K.2.2 R1001 R1004
  refine w_icmp_eq f333_2047 (fun _ => kq _ _ I1004 ⟨J, K⟩ (Nat.le_refl _)) (fun q => absurd Z q)
theorem lc_50 {X : aX} (G : hG X 302) (hX : X 0 = some (8, zab)) {L : Nat} {xs : Nat → Int32} (hX1 : X 1 = some (L, xs)) (hL : L ≤ 3072) {i : Int32} (i0 : 0 ≤ i.toInt) (i1 : i.toInt + 6 ≤ L) {Q : Option Value → aH → Prop} {σ : List Nat} {h : aH} (I : dI σ h) (J : JX h) (kq : ∀ (σ' : List Nat) (h' : aH), dI σ' h' → JX h' → dPh h' ≤ dPh h → Wp X 64 zM333 Q 2075 [some (.retAddr 1), some (.ref 0), some (.ref 72), some (.int i)] [] h') : Wp X 64 zM333 Q 2052 [some (.retAddr 1), some (.ref 0), some (.ref 72), some (.int i)] [] h := by
  obtain ⟨J, K⟩ := J
  refine wp1 (fun n d => r_aloadn f333_2052 rfl) ?_
  refine wp1 (fun n d => r_aloadnX f333_2053 rfl) ?_
  refine wp1 (fun n d => r_iloadn f333_2054 rfl) ?_
  refine w_iconst f333_2055 (fun v2055 hv2055 => ?_)
  refine w_iadd f333_2056 (by omega) (by omega) (fun v2056 hv2056 => ?_)
  refine w_xld f333_2057 hX1 (by omega) (by omega) (fun v2057 hv2057 => ?_)
  obtain ⟨fs1002, c1002⟩ := hI_o I (r := 0) (ci := 11) (by decide +kernel)
  refine wp_good (G 297 (by decide) cC297 rfl) (Y := zM194) (show zmt[194]? = some zM194 from rfl) I (ρ := [0, v2057.toInt]) (dK_v (kV_of rfl ⟨⟨by decide, by decide⟩, iR v2057, trivial⟩)) (dL_of (l := [some (.ref 0), some (.int v2057)]) ⟨lw_r (by decide), lw_i rfl, trivial⟩) (fun n d v h' e => r_virt (as := [.int v2057]) (r := []) f333_2058 c1002 (show zmt[194]? = some zM194 from rfl) rfl rfl rfl rfl rfl rfl e) (by first | decide | (show 0 + 1 ≤ _; omega)) (fun v h1001 σ1001 I1001 G1001 P1001 => ?_)
  obtain ⟨v2058, vq2058⟩ : ∃ y : Int32, v = some (.int y) := by
    obtain ⟨P, hm, ρ', rh', kP, sP⟩ := P1001
    cases List.mem_singleton.mp hm
    cases v with
    | none => exact sP.elim
    | some v =>
      obtain ⟨⟨x, y, rfl, -, -⟩, -⟩ := sP
      exact ⟨x, rfl⟩
  subst vq2058
  show Wp _ _ _ _ 2061 [some (.retAddr 1), some (.ref 0), some (.ref 72), some (.int i)] [.int v2058] _
  obtain ⟨fs1003, c1003, df1003⟩ := dG_o I.1 G1001 c1002 (by decide)
  refine wp1 (fun nn dd => r_pop f333_2061 rfl) ?_
  refine wp1 (fun n d => r_aloadn f333_2062 rfl) ?_
  refine wp1 (fun n d => r_aloadnX f333_2063 rfl) ?_
  refine wp1 (fun n d => r_iloadn f333_2064 rfl) ?_
  refine w_iconst f333_2065 (fun v2065 hv2065 => ?_)
  refine w_iadd f333_2066 (by omega) (by omega) (fun v2066 hv2066 => ?_)
  refine w_xld f333_2067 hX1 (by omega) (by omega) (fun v2067 hv2067 => ?_)
  obtain ⟨fs1005, c1005⟩ := hI_o I1001 (r := 72) (ci := 12) (by decide +kernel)
  refine wp_good (G 301 (by decide) cC301 rfl) (Y := zM327) (show zmt[327]? = some zM327 from rfl) I1001 (ρ := [0, v2067.toInt]) (dK_v (kV_of rfl ⟨⟨by decide, by decide⟩, iR v2067, trivial⟩)) (dL_of (l := [some (.ref 72), some (.int v2067)]) ⟨lw_r (by decide), lw_i rfl, trivial⟩) (fun n d v h' e => r_virt (as := [.int v2067]) (r := []) f333_2068 c1005 (show zmt[327]? = some zM327 from rfl) rfl rfl rfl rfl rfl rfl e) (by first | decide | (show 2 + 1 ≤ _; omega)) (fun v h1004 σ1004 I1004 G1004 P1004 => ?_)
  obtain ⟨v2068, vq2068⟩ : ∃ y : Int32, v = some (.int y) := by
    obtain ⟨P, hm, ρ', rh', kP, sP⟩ := P1004
    cases List.mem_singleton.mp hm
    cases v with
    | none => exact sP.elim
    | some v =>
      obtain ⟨⟨x, y, rfl, -, -⟩, -⟩ := sP
      exact ⟨x, rfl⟩
  subst vq2068
  show Wp _ _ _ _ 2071 [some (.retAddr 1), some (.ref 0), some (.ref 72), some (.int i)] [.int v2068] _
  obtain ⟨fs1006, c1006, df1006⟩ := dG_o I1001.1 G1004 c1003 (by decide)
  obtain ⟨fs1007, c1007, df1007⟩ := dG_o I1001.1 G1004 c1005 (by decide)
  have GG : dG ([] : List (Nat × Nat)) σ h σ1004 h1004 := (dG_trans (dG_sub (by decide) G1001) (dG_sub (by decide) G1004))
  refine wp1 (fun nn dd => r_pop f333_2071 rfl) ?_
  refine wp1 (fun nn dd => r_goto f333_2072) ?_
  exact kq _ _ I1004 ⟨JQ_dG J I GG (by decide), JRing_dG K.1 I GG (by decide), JBody_dG K.2.1 I GG (by decide), JShelf_dG K.2.2 I GG (by decide)⟩ GG.2.2
