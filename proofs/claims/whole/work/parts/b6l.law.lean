/-! ===== rows of the law: what stands where ===== -/
theorem dL_law_1864 : decode cL_law 1864 = .ok (.iadd, 1) := by decide +kernel
theorem dL_law_1865 : decode cL_law 1865 = .ok (.iaload, 1) := by decide +kernel
theorem dL_law_1866 : decode cL_law 1866 = .ok (.aload_n 3, 1) := by decide +kernel
theorem dL_law_1867 : decode cL_law 1867 = .ok (.invokestatic 228, 3) := by decide +kernel
theorem dL_law_1870 : decode cL_law 1870 = .ok (.istore 5, 2) := by decide +kernel
theorem dL_law_1872 : decode cL_law 1872 = .ok (.aload_n 2, 1) := by decide +kernel
theorem dL_law_1873 : decode cL_law 1873 = .ok (.aload_n 0, 1) := by decide +kernel
theorem dL_law_1874 : decode cL_law 1874 = .ok (.iload 4, 2) := by decide +kernel
theorem dL_law_1876 : decode cL_law 1876 = .ok (.iconst 1, 1) := by decide +kernel
theorem dL_law_1877 : decode cL_law 1877 = .ok (.iadd, 1) := by decide +kernel
theorem dL_law_1878 : decode cL_law 1878 = .ok (.iaload, 1) := by decide +kernel
theorem dL_law_1879 : decode cL_law 1879 = .ok (.invokevirtual 230, 3) := by decide +kernel
theorem dL_law_1882 : decode cL_law 1882 = .ok (.istore 6, 2) := by decide +kernel
theorem dL_law_1884 : decode cL_law 1884 = .ok (.aload_n 2, 1) := by decide +kernel
theorem dL_law_1885 : decode cL_law 1885 = .ok (.invokevirtual 138, 3) := by decide +kernel
theorem dL_law_1888 : decode cL_law 1888 = .ok (.iload 5, 2) := by decide +kernel
theorem dL_law_1890 : decode cL_law 1890 = .ok (.if_icmp .eq 5, 3) := by decide +kernel
theorem dL_law_1893 : decode cL_law 1893 = .ok (.iconst 0, 1) := by decide +kernel
theorem dL_law_1894 : decode cL_law 1894 = .ok (.ireturn, 1) := by decide +kernel
theorem dL_law_1895 : decode cL_law 1895 = .ok (.iload 5, 2) := by decide +kernel
theorem dL_law_1897 : decode cL_law 1897 = .ok (.ifCond .ne 15, 3) := by decide +kernel
theorem dL_law_1900 : decode cL_law 1900 = .ok (.aload_n 3, 1) := by decide +kernel
theorem dL_law_1901 : decode cL_law 1901 = .ok (.iconst 0, 1) := by decide +kernel
theorem dL_law_1902 : decode cL_law 1902 = .ok (.laload, 1) := by decide +kernel
theorem dL_law_1903 : decode cL_law 1903 = .ok (.iload 6, 2) := by decide +kernel
theorem dL_law_1905 : decode cL_law 1905 = .ok (.i2l, 1) := by decide +kernel
theorem dL_law_1906 : decode cL_law 1906 = .ok (.lcmp, 1) := by decide +kernel
theorem dL_law_1907 : decode cL_law 1907 = .ok (.ifCond .eq 5, 3) := by decide +kernel
theorem dL_law_1910 : decode cL_law 1910 = .ok (.iconst 0, 1) := by decide +kernel
theorem dL_law_1911 : decode cL_law 1911 = .ok (.ireturn, 1) := by decide +kernel
theorem dL_law_1912 : decode cL_law 1912 = .ok (.goto 795, 3) := by decide +kernel
theorem dL_law_1915 : decode cL_law 1915 = .ok (.aload_n 1, 1) := by decide +kernel
theorem dL_law_1916 : decode cL_law 1916 = .ok (.aload_n 0, 1) := by decide +kernel
theorem dL_law_1917 : decode cL_law 1917 = .ok (.iload 4, 2) := by decide +kernel
theorem dL_law_1919 : decode cL_law 1919 = .ok (.iconst 1, 1) := by decide +kernel
theorem dL_law_1920 : decode cL_law 1920 = .ok (.iadd, 1) := by decide +kernel
theorem dL_law_1921 : decode cL_law 1921 = .ok (.iaload, 1) := by decide +kernel
theorem dL_law_1922 : decode cL_law 1922 = .ok (.aload_n 3, 1) := by decide +kernel
theorem dL_law_1923 : decode cL_law 1923 = .ok (.invokestatic 231, 3) := by decide +kernel
theorem dL_law_1926 : decode cL_law 1926 = .ok (.istore 5, 2) := by decide +kernel
theorem dL_law_1928 : decode cL_law 1928 = .ok (.aload_n 2, 1) := by decide +kernel
theorem dL_law_1929 : decode cL_law 1929 = .ok (.aload_n 0, 1) := by decide +kernel
theorem dL_law_1930 : decode cL_law 1930 = .ok (.iload 4, 2) := by decide +kernel
theorem dL_law_1932 : decode cL_law 1932 = .ok (.iconst 1, 1) := by decide +kernel
theorem dL_law_1933 : decode cL_law 1933 = .ok (.iadd, 1) := by decide +kernel
theorem dL_law_1934 : decode cL_law 1934 = .ok (.iaload, 1) := by decide +kernel
theorem dL_law_1935 : decode cL_law 1935 = .ok (.invokevirtual 233, 3) := by decide +kernel
theorem dL_law_1938 : decode cL_law 1938 = .ok (.istore 6, 2) := by decide +kernel
theorem dL_law_1940 : decode cL_law 1940 = .ok (.aload_n 2, 1) := by decide +kernel
theorem dL_law_1941 : decode cL_law 1941 = .ok (.invokevirtual 138, 3) := by decide +kernel
theorem dL_law_1944 : decode cL_law 1944 = .ok (.iload 5, 2) := by decide +kernel
theorem dL_law_1946 : decode cL_law 1946 = .ok (.if_icmp .eq 5, 3) := by decide +kernel
theorem dL_law_1949 : decode cL_law 1949 = .ok (.iconst 0, 1) := by decide +kernel
theorem dL_law_1950 : decode cL_law 1950 = .ok (.ireturn, 1) := by decide +kernel
theorem dL_law_1951 : decode cL_law 1951 = .ok (.iload 5, 2) := by decide +kernel
theorem dL_law_1953 : decode cL_law 1953 = .ok (.ifCond .ne 15, 3) := by decide +kernel
theorem dL_law_1956 : decode cL_law 1956 = .ok (.aload_n 3, 1) := by decide +kernel
theorem dL_law_1957 : decode cL_law 1957 = .ok (.iconst 0, 1) := by decide +kernel
theorem dL_law_1958 : decode cL_law 1958 = .ok (.laload, 1) := by decide +kernel
theorem dL_law_1959 : decode cL_law 1959 = .ok (.iload 6, 2) := by decide +kernel
theorem dL_law_1961 : decode cL_law 1961 = .ok (.i2l, 1) := by decide +kernel
theorem dL_law_1962 : decode cL_law 1962 = .ok (.lcmp, 1) := by decide +kernel
theorem dL_law_1963 : decode cL_law 1963 = .ok (.ifCond .eq 5, 3) := by decide +kernel
theorem dL_law_1966 : decode cL_law 1966 = .ok (.iconst 0, 1) := by decide +kernel
theorem dL_law_1967 : decode cL_law 1967 = .ok (.ireturn, 1) := by decide +kernel
theorem dL_law_1968 : decode cL_law 1968 = .ok (.goto 739, 3) := by decide +kernel
theorem dL_law_1971 : decode cL_law 1971 = .ok (.aload_n 1, 1) := by decide +kernel
theorem dL_law_1972 : decode cL_law 1972 = .ok (.aload_n 0, 1) := by decide +kernel
theorem dL_law_1973 : decode cL_law 1973 = .ok (.iload 4, 2) := by decide +kernel
theorem dL_law_1975 : decode cL_law 1975 = .ok (.iconst 1, 1) := by decide +kernel
theorem dL_law_1976 : decode cL_law 1976 = .ok (.iadd, 1) := by decide +kernel
theorem dL_law_1977 : decode cL_law 1977 = .ok (.iaload, 1) := by decide +kernel
theorem dL_law_1978 : decode cL_law 1978 = .ok (.aload_n 0, 1) := by decide +kernel
theorem dL_law_1979 : decode cL_law 1979 = .ok (.iload 4, 2) := by decide +kernel
theorem dL_law_1981 : decode cL_law 1981 = .ok (.iconst 2, 1) := by decide +kernel
theorem dL_law_1982 : decode cL_law 1982 = .ok (.iadd, 1) := by decide +kernel
theorem dL_law_1983 : decode cL_law 1983 = .ok (.iaload, 1) := by decide +kernel
theorem dL_law_1984 : decode cL_law 1984 = .ok (.aload_n 3, 1) := by decide +kernel
theorem dL_law_1985 : decode cL_law 1985 = .ok (.invokestatic 234, 3) := by decide +kernel
theorem dL_law_1988 : decode cL_law 1988 = .ok (.istore 5, 2) := by decide +kernel
theorem dL_law_1990 : decode cL_law 1990 = .ok (.aload_n 2, 1) := by decide +kernel
theorem dL_law_1991 : decode cL_law 1991 = .ok (.aload_n 0, 1) := by decide +kernel
theorem dL_law_1992 : decode cL_law 1992 = .ok (.iload 4, 2) := by decide +kernel
theorem dL_law_1994 : decode cL_law 1994 = .ok (.iconst 1, 1) := by decide +kernel
theorem dL_law_1995 : decode cL_law 1995 = .ok (.iadd, 1) := by decide +kernel
theorem dL_law_1996 : decode cL_law 1996 = .ok (.iaload, 1) := by decide +kernel
theorem dL_law_1997 : decode cL_law 1997 = .ok (.aload_n 0, 1) := by decide +kernel
theorem dL_law_1998 : decode cL_law 1998 = .ok (.iload 4, 2) := by decide +kernel
theorem dL_law_2000 : decode cL_law 2000 = .ok (.iconst 2, 1) := by decide +kernel
theorem dL_law_2001 : decode cL_law 2001 = .ok (.iadd, 1) := by decide +kernel
theorem dL_law_2002 : decode cL_law 2002 = .ok (.iaload, 1) := by decide +kernel
theorem dL_law_2003 : decode cL_law 2003 = .ok (.invokevirtual 236, 3) := by decide +kernel
theorem dL_law_2006 : decode cL_law 2006 = .ok (.istore 6, 2) := by decide +kernel
theorem dL_law_2008 : decode cL_law 2008 = .ok (.aload_n 2, 1) := by decide +kernel
theorem dL_law_2009 : decode cL_law 2009 = .ok (.invokevirtual 138, 3) := by decide +kernel
theorem dL_law_2012 : decode cL_law 2012 = .ok (.iload 5, 2) := by decide +kernel
theorem dL_law_2014 : decode cL_law 2014 = .ok (.if_icmp .eq 5, 3) := by decide +kernel
theorem dL_law_2017 : decode cL_law 2017 = .ok (.iconst 0, 1) := by decide +kernel
theorem dL_law_2018 : decode cL_law 2018 = .ok (.ireturn, 1) := by decide +kernel
theorem dL_law_2019 : decode cL_law 2019 = .ok (.iload 5, 2) := by decide +kernel
