theorem dL_law_1972 : decode cL_law 1972 = .ok (.invokevirtual 178, 3) := by decide +kernel
theorem dL_law_1975 : decode cL_law 1975 = .ok (.aload_n 2, 1) := by decide +kernel
theorem dL_law_1976 : decode cL_law 1976 = .ok (.aload_n 0, 1) := by decide +kernel
theorem dL_law_1977 : decode cL_law 1977 = .ok (.iload 4, 2) := by decide +kernel
theorem dL_law_1979 : decode cL_law 1979 = .ok (.iconst 1, 1) := by decide +kernel
theorem dL_law_1980 : decode cL_law 1980 = .ok (.iadd, 1) := by decide +kernel
theorem dL_law_1981 : decode cL_law 1981 = .ok (.iaload, 1) := by decide +kernel
theorem dL_law_1982 : decode cL_law 1982 = .ok (.aload_n 0, 1) := by decide +kernel
theorem dL_law_1983 : decode cL_law 1983 = .ok (.iload 4, 2) := by decide +kernel
theorem dL_law_1985 : decode cL_law 1985 = .ok (.iconst 2, 1) := by decide +kernel
theorem dL_law_1986 : decode cL_law 1986 = .ok (.iadd, 1) := by decide +kernel
theorem dL_law_1987 : decode cL_law 1987 = .ok (.iaload, 1) := by decide +kernel
theorem dL_law_1988 : decode cL_law 1988 = .ok (.invokevirtual 181, 3) := by decide +kernel
theorem dL_law_1991 : decode cL_law 1991 = .ok (.if_icmp .eq 409, 3) := by decide +kernel
theorem dL_law_1996 : decode cL_law 1996 = .ok (.aload_n 1, 1) := by decide +kernel
theorem dL_law_1997 : decode cL_law 1997 = .ok (.aload_n 0, 1) := by decide +kernel
theorem dL_law_1998 : decode cL_law 1998 = .ok (.iload 4, 2) := by decide +kernel
theorem dL_law_2000 : decode cL_law 2000 = .ok (.iconst 1, 1) := by decide +kernel
theorem dL_law_2001 : decode cL_law 2001 = .ok (.iadd, 1) := by decide +kernel
theorem dL_law_2002 : decode cL_law 2002 = .ok (.iaload, 1) := by decide +kernel
theorem dL_law_2003 : decode cL_law 2003 = .ok (.aload_n 0, 1) := by decide +kernel
theorem dL_law_2004 : decode cL_law 2004 = .ok (.iload 4, 2) := by decide +kernel
theorem dL_law_2006 : decode cL_law 2006 = .ok (.iconst 2, 1) := by decide +kernel
theorem dL_law_2007 : decode cL_law 2007 = .ok (.iadd, 1) := by decide +kernel
theorem dL_law_2008 : decode cL_law 2008 = .ok (.iaload, 1) := by decide +kernel
theorem dL_law_2009 : decode cL_law 2009 = .ok (.invokevirtual 182, 3) := by decide +kernel
theorem dL_law_2012 : decode cL_law 2012 = .ok (.aload_n 2, 1) := by decide +kernel
theorem dL_law_2013 : decode cL_law 2013 = .ok (.aload_n 0, 1) := by decide +kernel
theorem dL_law_2014 : decode cL_law 2014 = .ok (.iload 4, 2) := by decide +kernel
theorem dL_law_2016 : decode cL_law 2016 = .ok (.iconst 1, 1) := by decide +kernel
theorem dL_law_2017 : decode cL_law 2017 = .ok (.iadd, 1) := by decide +kernel
theorem dL_law_2018 : decode cL_law 2018 = .ok (.iaload, 1) := by decide +kernel
theorem dL_law_2019 : decode cL_law 2019 = .ok (.aload_n 0, 1) := by decide +kernel
theorem dL_law_2020 : decode cL_law 2020 = .ok (.iload 4, 2) := by decide +kernel
theorem dL_law_2022 : decode cL_law 2022 = .ok (.iconst 2, 1) := by decide +kernel
theorem dL_law_2023 : decode cL_law 2023 = .ok (.iadd, 1) := by decide +kernel
theorem dL_law_2024 : decode cL_law 2024 = .ok (.iaload, 1) := by decide +kernel
theorem dL_law_2025 : decode cL_law 2025 = .ok (.invokevirtual 185, 3) := by decide +kernel
theorem dL_law_2028 : decode cL_law 2028 = .ok (.if_icmp .eq 372, 3) := by decide +kernel
theorem dL_law_2033 : decode cL_law 2033 = .ok (.aload_n 1, 1) := by decide +kernel
theorem dL_law_2034 : decode cL_law 2034 = .ok (.invokevirtual 186, 3) := by decide +kernel
theorem dL_law_2037 : decode cL_law 2037 = .ok (.aload_n 2, 1) := by decide +kernel
theorem dL_law_2038 : decode cL_law 2038 = .ok (.invokevirtual 189, 3) := by decide +kernel
theorem dL_law_2041 : decode cL_law 2041 = .ok (.if_icmp .eq 359, 3) := by decide +kernel
theorem dL_law_2046 : decode cL_law 2046 = .ok (.aload_n 1, 1) := by decide +kernel
theorem dL_law_2047 : decode cL_law 2047 = .ok (.aload_n 0, 1) := by decide +kernel
theorem dL_law_2048 : decode cL_law 2048 = .ok (.iload 4, 2) := by decide +kernel
theorem dL_law_2050 : decode cL_law 2050 = .ok (.iconst 1, 1) := by decide +kernel
theorem dL_law_2051 : decode cL_law 2051 = .ok (.iadd, 1) := by decide +kernel
theorem dL_law_2052 : decode cL_law 2052 = .ok (.iaload, 1) := by decide +kernel
theorem dL_law_2053 : decode cL_law 2053 = .ok (.aload_n 0, 1) := by decide +kernel
theorem dL_law_2054 : decode cL_law 2054 = .ok (.iload 4, 2) := by decide +kernel
theorem dL_law_2056 : decode cL_law 2056 = .ok (.iconst 2, 1) := by decide +kernel
theorem dL_law_2057 : decode cL_law 2057 = .ok (.iadd, 1) := by decide +kernel
theorem dL_law_2058 : decode cL_law 2058 = .ok (.iaload, 1) := by decide +kernel
theorem dL_law_2059 : decode cL_law 2059 = .ok (.aload_n 0, 1) := by decide +kernel
theorem dL_law_2060 : decode cL_law 2060 = .ok (.iload 4, 2) := by decide +kernel
theorem dL_law_2062 : decode cL_law 2062 = .ok (.iconst 3, 1) := by decide +kernel
theorem dL_law_2063 : decode cL_law 2063 = .ok (.iadd, 1) := by decide +kernel
theorem dL_law_2064 : decode cL_law 2064 = .ok (.iaload, 1) := by decide +kernel
theorem dL_law_2065 : decode cL_law 2065 = .ok (.aload_n 0, 1) := by decide +kernel
theorem dL_law_2066 : decode cL_law 2066 = .ok (.iload 4, 2) := by decide +kernel
theorem dL_law_2068 : decode cL_law 2068 = .ok (.iconst 4, 1) := by decide +kernel
theorem dL_law_2069 : decode cL_law 2069 = .ok (.iadd, 1) := by decide +kernel
theorem dL_law_2070 : decode cL_law 2070 = .ok (.iaload, 1) := by decide +kernel
theorem dL_law_2071 : decode cL_law 2071 = .ok (.invokevirtual 190, 3) := by decide +kernel
theorem dL_law_2074 : decode cL_law 2074 = .ok (.aload_n 2, 1) := by decide +kernel
theorem dL_law_2075 : decode cL_law 2075 = .ok (.aload_n 0, 1) := by decide +kernel
theorem dL_law_2076 : decode cL_law 2076 = .ok (.iload 4, 2) := by decide +kernel
theorem dL_law_2078 : decode cL_law 2078 = .ok (.iconst 1, 1) := by decide +kernel
theorem dL_law_2079 : decode cL_law 2079 = .ok (.iadd, 1) := by decide +kernel
theorem dL_law_2080 : decode cL_law 2080 = .ok (.iaload, 1) := by decide +kernel
theorem dL_law_2081 : decode cL_law 2081 = .ok (.aload_n 0, 1) := by decide +kernel
theorem dL_law_2082 : decode cL_law 2082 = .ok (.iload 4, 2) := by decide +kernel
theorem dL_law_2084 : decode cL_law 2084 = .ok (.iconst 2, 1) := by decide +kernel
theorem dL_law_2085 : decode cL_law 2085 = .ok (.iadd, 1) := by decide +kernel
theorem dL_law_2086 : decode cL_law 2086 = .ok (.iaload, 1) := by decide +kernel
theorem dL_law_2087 : decode cL_law 2087 = .ok (.aload_n 0, 1) := by decide +kernel
theorem dL_law_2088 : decode cL_law 2088 = .ok (.iload 4, 2) := by decide +kernel
theorem dL_law_2090 : decode cL_law 2090 = .ok (.iconst 3, 1) := by decide +kernel
theorem dL_law_2091 : decode cL_law 2091 = .ok (.iadd, 1) := by decide +kernel
theorem dL_law_2092 : decode cL_law 2092 = .ok (.iaload, 1) := by decide +kernel
theorem dL_law_2093 : decode cL_law 2093 = .ok (.aload_n 0, 1) := by decide +kernel
theorem dL_law_2094 : decode cL_law 2094 = .ok (.iload 4, 2) := by decide +kernel
theorem dL_law_2096 : decode cL_law 2096 = .ok (.iconst 4, 1) := by decide +kernel
theorem dL_law_2097 : decode cL_law 2097 = .ok (.iadd, 1) := by decide +kernel
theorem dL_law_2098 : decode cL_law 2098 = .ok (.iaload, 1) := by decide +kernel
theorem dL_law_2099 : decode cL_law 2099 = .ok (.invokevirtual 193, 3) := by decide +kernel
theorem dL_law_2102 : decode cL_law 2102 = .ok (.if_icmp .eq 298, 3) := by decide +kernel
theorem dL_law_2105 : decode cL_law 2105 = .ok (.iconst 0, 1) := by decide +kernel
theorem dL_law_2107 : decode cL_law 2107 = .ok (.aload_n 1, 1) := by decide +kernel
theorem dL_law_2108 : decode cL_law 2108 = .ok (.aload_n 0, 1) := by decide +kernel
theorem dL_law_2109 : decode cL_law 2109 = .ok (.iload 4, 2) := by decide +kernel
theorem dL_law_2111 : decode cL_law 2111 = .ok (.iconst 1, 1) := by decide +kernel
theorem dL_law_2112 : decode cL_law 2112 = .ok (.iadd, 1) := by decide +kernel
theorem dL_law_2113 : decode cL_law 2113 = .ok (.iaload, 1) := by decide +kernel
theorem dL_law_2114 : decode cL_law 2114 = .ok (.aload_n 0, 1) := by decide +kernel
theorem dL_law_2115 : decode cL_law 2115 = .ok (.iload 4, 2) := by decide +kernel
theorem dL_law_2117 : decode cL_law 2117 = .ok (.iconst 2, 1) := by decide +kernel
theorem dL_law_2118 : decode cL_law 2118 = .ok (.iadd, 1) := by decide +kernel
theorem dL_law_2119 : decode cL_law 2119 = .ok (.iaload, 1) := by decide +kernel
theorem dL_law_2120 : decode cL_law 2120 = .ok (.aload_n 0, 1) := by decide +kernel
theorem dL_law_2121 : decode cL_law 2121 = .ok (.iload 4, 2) := by decide +kernel
theorem dL_law_2123 : decode cL_law 2123 = .ok (.iconst 3, 1) := by decide +kernel
theorem dL_law_2124 : decode cL_law 2124 = .ok (.iadd, 1) := by decide +kernel
theorem dL_law_2125 : decode cL_law 2125 = .ok (.iaload, 1) := by decide +kernel
theorem dL_law_2126 : decode cL_law 2126 = .ok (.aload_n 0, 1) := by decide +kernel
theorem dL_law_2127 : decode cL_law 2127 = .ok (.iload 4, 2) := by decide +kernel
theorem dL_law_2129 : decode cL_law 2129 = .ok (.iconst 4, 1) := by decide +kernel
theorem dL_law_2130 : decode cL_law 2130 = .ok (.iadd, 1) := by decide +kernel
theorem dL_law_2131 : decode cL_law 2131 = .ok (.iaload, 1) := by decide +kernel
theorem dL_law_2132 : decode cL_law 2132 = .ok (.aload_n 0, 1) := by decide +kernel
theorem dL_law_2133 : decode cL_law 2133 = .ok (.iload 4, 2) := by decide +kernel
theorem dL_law_2135 : decode cL_law 2135 = .ok (.iconst 5, 1) := by decide +kernel
theorem dL_law_2136 : decode cL_law 2136 = .ok (.iadd, 1) := by decide +kernel
theorem dL_law_2137 : decode cL_law 2137 = .ok (.iaload, 1) := by decide +kernel
theorem dL_law_2138 : decode cL_law 2138 = .ok (.invokevirtual 194, 3) := by decide +kernel
theorem dL_law_2141 : decode cL_law 2141 = .ok (.aload_n 2, 1) := by decide +kernel
theorem dL_law_2142 : decode cL_law 2142 = .ok (.aload_n 0, 1) := by decide +kernel
theorem dL_law_2143 : decode cL_law 2143 = .ok (.iload 4, 2) := by decide +kernel
theorem dL_law_2145 : decode cL_law 2145 = .ok (.iconst 1, 1) := by decide +kernel
theorem dL_law_2146 : decode cL_law 2146 = .ok (.iadd, 1) := by decide +kernel
theorem dL_law_2147 : decode cL_law 2147 = .ok (.iaload, 1) := by decide +kernel
theorem dL_law_2148 : decode cL_law 2148 = .ok (.aload_n 0, 1) := by decide +kernel
theorem dL_law_2149 : decode cL_law 2149 = .ok (.iload 4, 2) := by decide +kernel
theorem dL_law_2151 : decode cL_law 2151 = .ok (.iconst 2, 1) := by decide +kernel
theorem dL_law_2152 : decode cL_law 2152 = .ok (.iadd, 1) := by decide +kernel
theorem dL_law_2153 : decode cL_law 2153 = .ok (.iaload, 1) := by decide +kernel
theorem dL_law_2154 : decode cL_law 2154 = .ok (.aload_n 0, 1) := by decide +kernel
theorem dL_law_2155 : decode cL_law 2155 = .ok (.iload 4, 2) := by decide +kernel
theorem dL_law_2157 : decode cL_law 2157 = .ok (.iconst 3, 1) := by decide +kernel
theorem dL_law_2158 : decode cL_law 2158 = .ok (.iadd, 1) := by decide +kernel
theorem dL_law_2159 : decode cL_law 2159 = .ok (.iaload, 1) := by decide +kernel
theorem dL_law_2160 : decode cL_law 2160 = .ok (.aload_n 0, 1) := by decide +kernel
theorem dL_law_2161 : decode cL_law 2161 = .ok (.iload 4, 2) := by decide +kernel
theorem dL_law_2163 : decode cL_law 2163 = .ok (.iconst 4, 1) := by decide +kernel
theorem dL_law_2164 : decode cL_law 2164 = .ok (.iadd, 1) := by decide +kernel
theorem dL_law_2165 : decode cL_law 2165 = .ok (.iaload, 1) := by decide +kernel
theorem dL_law_2166 : decode cL_law 2166 = .ok (.aload_n 0, 1) := by decide +kernel
theorem dL_law_2167 : decode cL_law 2167 = .ok (.iload 4, 2) := by decide +kernel
theorem dL_law_2169 : decode cL_law 2169 = .ok (.iconst 5, 1) := by decide +kernel
theorem dL_law_2170 : decode cL_law 2170 = .ok (.iadd, 1) := by decide +kernel
theorem dL_law_2171 : decode cL_law 2171 = .ok (.iaload, 1) := by decide +kernel
theorem dL_law_2172 : decode cL_law 2172 = .ok (.invokevirtual 198, 3) := by decide +kernel
theorem dL_law_2175 : decode cL_law 2175 = .ok (.if_icmp .eq 225, 3) := by decide +kernel
theorem dL_law_2180 : decode cL_law 2180 = .ok (.aload_n 1, 1) := by decide +kernel
theorem dL_law_2181 : decode cL_law 2181 = .ok (.aload_n 0, 1) := by decide +kernel
theorem dL_law_2182 : decode cL_law 2182 = .ok (.iload 4, 2) := by decide +kernel
theorem dL_law_2184 : decode cL_law 2184 = .ok (.iconst 1, 1) := by decide +kernel
theorem dL_law_2185 : decode cL_law 2185 = .ok (.iadd, 1) := by decide +kernel
