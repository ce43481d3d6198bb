theorem dL_law__1936 : decode cL_law_ 1936 = .ok (.goto 4, 3) := by decide +kernel
theorem dL_law__1939 : decode cL_law_ 1939 = .ok (.iconst 0, 1) := by decide +kernel
theorem dL_law__1940 : decode cL_law_ 1940 = .ok (.invokevirtual 207, 3) := by decide +kernel
theorem dL_law__1943 : decode cL_law_ 1943 = .ok (.istore 6, 2) := by decide +kernel
theorem dL_law__1945 : decode cL_law_ 1945 = .ok (.aload_n 2, 1) := by decide +kernel
theorem dL_law__1946 : decode cL_law_ 1946 = .ok (.invokevirtual 129, 3) := by decide +kernel
theorem dL_law__1949 : decode cL_law_ 1949 = .ok (.iload 5, 2) := by decide +kernel
theorem dL_law__1951 : decode cL_law_ 1951 = .ok (.if_icmp .eq 5, 3) := by decide +kernel
theorem dL_law__1954 : decode cL_law_ 1954 = .ok (.iconst 0, 1) := by decide +kernel
theorem dL_law__1955 : decode cL_law_ 1955 = .ok (.ireturn, 1) := by decide +kernel
theorem dL_law__1956 : decode cL_law_ 1956 = .ok (.iload 5, 2) := by decide +kernel
theorem dL_law__1958 : decode cL_law_ 1958 = .ok (.ifCond .ne 15, 3) := by decide +kernel
theorem dL_law__1961 : decode cL_law_ 1961 = .ok (.aload_n 3, 1) := by decide +kernel
theorem dL_law__1962 : decode cL_law_ 1962 = .ok (.iconst 0, 1) := by decide +kernel
theorem dL_law__1963 : decode cL_law_ 1963 = .ok (.laload, 1) := by decide +kernel
theorem dL_law__1964 : decode cL_law_ 1964 = .ok (.iload 6, 2) := by decide +kernel
theorem dL_law__1966 : decode cL_law_ 1966 = .ok (.i2l, 1) := by decide +kernel
theorem dL_law__1967 : decode cL_law_ 1967 = .ok (.lcmp, 1) := by decide +kernel
theorem dL_law__1968 : decode cL_law_ 1968 = .ok (.ifCond .eq 5, 3) := by decide +kernel
theorem dL_law__1971 : decode cL_law_ 1971 = .ok (.iconst 0, 1) := by decide +kernel
theorem dL_law__1972 : decode cL_law_ 1972 = .ok (.ireturn, 1) := by decide +kernel
theorem dL_law__1973 : decode cL_law_ 1973 = .ok (.goto 598, 3) := by decide +kernel
theorem dL_law__1976 : decode cL_law_ 1976 = .ok (.aload_n 1, 1) := by decide +kernel
theorem dL_law__1977 : decode cL_law_ 1977 = .ok (.aload_n 0, 1) := by decide +kernel
theorem dL_law__1978 : decode cL_law_ 1978 = .ok (.iload 4, 2) := by decide +kernel
theorem dL_law__1980 : decode cL_law_ 1980 = .ok (.iconst 1, 1) := by decide +kernel
theorem dL_law__1981 : decode cL_law_ 1981 = .ok (.iadd, 1) := by decide +kernel
theorem dL_law__1982 : decode cL_law_ 1982 = .ok (.iaload, 1) := by decide +kernel
theorem dL_law__1983 : decode cL_law_ 1983 = .ok (.aload_n 3, 1) := by decide +kernel
theorem dL_law__1984 : decode cL_law_ 1984 = .ok (.invokestatic 208, 3) := by decide +kernel
theorem dL_law__1987 : decode cL_law_ 1987 = .ok (.istore 5, 2) := by decide +kernel
theorem dL_law__1989 : decode cL_law_ 1989 = .ok (.aload_n 2, 1) := by decide +kernel
theorem dL_law__1990 : decode cL_law_ 1990 = .ok (.aload_n 0, 1) := by decide +kernel
theorem dL_law__1991 : decode cL_law_ 1991 = .ok (.iload 4, 2) := by decide +kernel
theorem dL_law__1993 : decode cL_law_ 1993 = .ok (.iconst 1, 1) := by decide +kernel
theorem dL_law__1994 : decode cL_law_ 1994 = .ok (.iadd, 1) := by decide +kernel
theorem dL_law__1995 : decode cL_law_ 1995 = .ok (.iaload, 1) := by decide +kernel
theorem dL_law__1996 : decode cL_law_ 1996 = .ok (.invokevirtual 210, 3) := by decide +kernel
theorem dL_law__1999 : decode cL_law_ 1999 = .ok (.istore 6, 2) := by decide +kernel
theorem dL_law__2001 : decode cL_law_ 2001 = .ok (.aload_n 2, 1) := by decide +kernel
theorem dL_law__2002 : decode cL_law_ 2002 = .ok (.invokevirtual 129, 3) := by decide +kernel
theorem dL_law__2005 : decode cL_law_ 2005 = .ok (.iload 5, 2) := by decide +kernel
theorem dL_law__2007 : decode cL_law_ 2007 = .ok (.if_icmp .eq 5, 3) := by decide +kernel
theorem dL_law__2010 : decode cL_law_ 2010 = .ok (.iconst 0, 1) := by decide +kernel
theorem dL_law__2011 : decode cL_law_ 2011 = .ok (.ireturn, 1) := by decide +kernel
theorem dL_law__2012 : decode cL_law_ 2012 = .ok (.iload 5, 2) := by decide +kernel
theorem dL_law__2014 : decode cL_law_ 2014 = .ok (.ifCond .ne 15, 3) := by decide +kernel
theorem dL_law__2017 : decode cL_law_ 2017 = .ok (.aload_n 3, 1) := by decide +kernel
theorem dL_law__2018 : decode cL_law_ 2018 = .ok (.iconst 0, 1) := by decide +kernel
theorem dL_law__2019 : decode cL_law_ 2019 = .ok (.laload, 1) := by decide +kernel
theorem dL_law__2020 : decode cL_law_ 2020 = .ok (.iload 6, 2) := by decide +kernel
theorem dL_law__2022 : decode cL_law_ 2022 = .ok (.i2l, 1) := by decide +kernel
theorem dL_law__2023 : decode cL_law_ 2023 = .ok (.lcmp, 1) := by decide +kernel
theorem dL_law__2024 : decode cL_law_ 2024 = .ok (.ifCond .eq 5, 3) := by decide +kernel
theorem dL_law__2027 : decode cL_law_ 2027 = .ok (.iconst 0, 1) := by decide +kernel
theorem dL_law__2028 : decode cL_law_ 2028 = .ok (.ireturn, 1) := by decide +kernel
theorem dL_law__2029 : decode cL_law_ 2029 = .ok (.goto 542, 3) := by decide +kernel
theorem dL_law__2032 : decode cL_law_ 2032 = .ok (.aload_n 1, 1) := by decide +kernel
theorem dL_law__2033 : decode cL_law_ 2033 = .ok (.aload_n 0, 1) := by decide +kernel
theorem dL_law__2034 : decode cL_law_ 2034 = .ok (.iload 4, 2) := by decide +kernel
theorem dL_law__2036 : decode cL_law_ 2036 = .ok (.iconst 1, 1) := by decide +kernel
theorem dL_law__2037 : decode cL_law_ 2037 = .ok (.iadd, 1) := by decide +kernel
theorem dL_law__2038 : decode cL_law_ 2038 = .ok (.iaload, 1) := by decide +kernel
theorem dL_law__2039 : decode cL_law_ 2039 = .ok (.aload_n 3, 1) := by decide +kernel
theorem dL_law__2040 : decode cL_law_ 2040 = .ok (.invokestatic 211, 3) := by decide +kernel
theorem dL_law__2043 : decode cL_law_ 2043 = .ok (.istore 5, 2) := by decide +kernel
theorem dL_law__2045 : decode cL_law_ 2045 = .ok (.aload_n 2, 1) := by decide +kernel
theorem dL_law__2046 : decode cL_law_ 2046 = .ok (.aload_n 0, 1) := by decide +kernel
theorem dL_law__2047 : decode cL_law_ 2047 = .ok (.iload 4, 2) := by decide +kernel
theorem dL_law__2049 : decode cL_law_ 2049 = .ok (.iconst 1, 1) := by decide +kernel
theorem dL_law__2050 : decode cL_law_ 2050 = .ok (.iadd, 1) := by decide +kernel
theorem dL_law__2051 : decode cL_law_ 2051 = .ok (.iaload, 1) := by decide +kernel
theorem dL_law__2052 : decode cL_law_ 2052 = .ok (.invokevirtual 213, 3) := by decide +kernel
theorem dL_law__2055 : decode cL_law_ 2055 = .ok (.istore 6, 2) := by decide +kernel
theorem dL_law__2057 : decode cL_law_ 2057 = .ok (.aload_n 2, 1) := by decide +kernel
theorem dL_law__2058 : decode cL_law_ 2058 = .ok (.invokevirtual 129, 3) := by decide +kernel
theorem dL_law__2061 : decode cL_law_ 2061 = .ok (.iload 5, 2) := by decide +kernel
theorem dL_law__2063 : decode cL_law_ 2063 = .ok (.if_icmp .eq 5, 3) := by decide +kernel
theorem dL_law__2066 : decode cL_law_ 2066 = .ok (.iconst 0, 1) := by decide +kernel
theorem dL_law__2067 : decode cL_law_ 2067 = .ok (.ireturn, 1) := by decide +kernel
theorem dL_law__2068 : decode cL_law_ 2068 = .ok (.iload 5, 2) := by decide +kernel
theorem dL_law__2070 : decode cL_law_ 2070 = .ok (.ifCond .ne 15, 3) := by decide +kernel
theorem dL_law__2073 : decode cL_law_ 2073 = .ok (.aload_n 3, 1) := by decide +kernel
theorem dL_law__2074 : decode cL_law_ 2074 = .ok (.iconst 0, 1) := by decide +kernel
theorem dL_law__2075 : decode cL_law_ 2075 = .ok (.laload, 1) := by decide +kernel
theorem dL_law__2076 : decode cL_law_ 2076 = .ok (.iload 6, 2) := by decide +kernel
theorem dL_law__2078 : decode cL_law_ 2078 = .ok (.i2l, 1) := by decide +kernel
theorem dL_law__2079 : decode cL_law_ 2079 = .ok (.lcmp, 1) := by decide +kernel
theorem dL_law__2080 : decode cL_law_ 2080 = .ok (.ifCond .eq 5, 3) := by decide +kernel
theorem dL_law__2083 : decode cL_law_ 2083 = .ok (.iconst 0, 1) := by decide +kernel
theorem dL_law__2084 : decode cL_law_ 2084 = .ok (.ireturn, 1) := by decide +kernel
theorem dL_law__2085 : decode cL_law_ 2085 = .ok (.goto 486, 3) := by decide +kernel
theorem dL_law__2088 : decode cL_law_ 2088 = .ok (.aload_n 1, 1) := by decide +kernel
theorem dL_law__2089 : decode cL_law_ 2089 = .ok (.aload_n 0, 1) := by decide +kernel
theorem dL_law__2090 : decode cL_law_ 2090 = .ok (.iload 4, 2) := by decide +kernel
theorem dL_law__2092 : decode cL_law_ 2092 = .ok (.iconst 1, 1) := by decide +kernel
theorem dL_law__2093 : decode cL_law_ 2093 = .ok (.iadd, 1) := by decide +kernel
theorem dL_law__2094 : decode cL_law_ 2094 = .ok (.iaload, 1) := by decide +kernel
theorem dL_law__2095 : decode cL_law_ 2095 = .ok (.aload_n 0, 1) := by decide +kernel
theorem dL_law__2096 : decode cL_law_ 2096 = .ok (.iload 4, 2) := by decide +kernel
theorem dL_law__2098 : decode cL_law_ 2098 = .ok (.iconst 2, 1) := by decide +kernel
theorem dL_law__2099 : decode cL_law_ 2099 = .ok (.iadd, 1) := by decide +kernel
theorem dL_law__2100 : decode cL_law_ 2100 = .ok (.iaload, 1) := by decide +kernel
theorem dL_law__2101 : decode cL_law_ 2101 = .ok (.aload_n 3, 1) := by decide +kernel
theorem dL_law__2102 : decode cL_law_ 2102 = .ok (.invokestatic 214, 3) := by decide +kernel
theorem dL_law__2105 : decode cL_law_ 2105 = .ok (.istore 5, 2) := by decide +kernel
theorem dL_law__2107 : decode cL_law_ 2107 = .ok (.aload_n 2, 1) := by decide +kernel
theorem dL_law__2108 : decode cL_law_ 2108 = .ok (.aload_n 0, 1) := by decide +kernel
theorem dL_law__2109 : decode cL_law_ 2109 = .ok (.iload 4, 2) := by decide +kernel
theorem dL_law__2111 : decode cL_law_ 2111 = .ok (.iconst 1, 1) := by decide +kernel
theorem dL_law__2112 : decode cL_law_ 2112 = .ok (.iadd, 1) := by decide +kernel
theorem dL_law__2113 : decode cL_law_ 2113 = .ok (.iaload, 1) := by decide +kernel
theorem dL_law__2114 : decode cL_law_ 2114 = .ok (.aload_n 0, 1) := by decide +kernel
theorem dL_law__2115 : decode cL_law_ 2115 = .ok (.iload 4, 2) := by decide +kernel
theorem dL_law__2117 : decode cL_law_ 2117 = .ok (.iconst 2, 1) := by decide +kernel
theorem dL_law__2118 : decode cL_law_ 2118 = .ok (.iadd, 1) := by decide +kernel
theorem dL_law__2119 : decode cL_law_ 2119 = .ok (.iaload, 1) := by decide +kernel
theorem dL_law__2120 : decode cL_law_ 2120 = .ok (.invokevirtual 216, 3) := by decide +kernel
theorem dL_law__2123 : decode cL_law_ 2123 = .ok (.istore 6, 2) := by decide +kernel
theorem dL_law__2125 : decode cL_law_ 2125 = .ok (.aload_n 2, 1) := by decide +kernel
theorem dL_law__2126 : decode cL_law_ 2126 = .ok (.invokevirtual 129, 3) := by decide +kernel
theorem dL_law__2129 : decode cL_law_ 2129 = .ok (.iload 5, 2) := by decide +kernel
theorem dL_law__2131 : decode cL_law_ 2131 = .ok (.if_icmp .eq 5, 3) := by decide +kernel
theorem dL_law__2134 : decode cL_law_ 2134 = .ok (.iconst 0, 1) := by decide +kernel
theorem dL_law__2135 : decode cL_law_ 2135 = .ok (.ireturn, 1) := by decide +kernel
theorem dL_law__2136 : decode cL_law_ 2136 = .ok (.iload 5, 2) := by decide +kernel
theorem dL_law__2138 : decode cL_law_ 2138 = .ok (.ifCond .ne 15, 3) := by decide +kernel
theorem dL_law__2141 : decode cL_law_ 2141 = .ok (.aload_n 3, 1) := by decide +kernel
theorem dL_law__2142 : decode cL_law_ 2142 = .ok (.iconst 0, 1) := by decide +kernel
theorem dL_law__2143 : decode cL_law_ 2143 = .ok (.laload, 1) := by decide +kernel
theorem dL_law__2144 : decode cL_law_ 2144 = .ok (.iload 6, 2) := by decide +kernel
theorem dL_law__2146 : decode cL_law_ 2146 = .ok (.i2l, 1) := by decide +kernel
theorem dL_law__2147 : decode cL_law_ 2147 = .ok (.lcmp, 1) := by decide +kernel
theorem dL_law__2148 : decode cL_law_ 2148 = .ok (.ifCond .eq 5, 3) := by decide +kernel
theorem dL_law__2151 : decode cL_law_ 2151 = .ok (.iconst 0, 1) := by decide +kernel
theorem dL_law__2152 : decode cL_law_ 2152 = .ok (.ireturn, 1) := by decide +kernel
theorem dL_law__2153 : decode cL_law_ 2153 = .ok (.goto 418, 3) := by decide +kernel
theorem dL_law__2156 : decode cL_law_ 2156 = .ok (.aload_n 1, 1) := by decide +kernel
theorem dL_law__2157 : decode cL_law_ 2157 = .ok (.aload_n 0, 1) := by decide +kernel
theorem dL_law__2158 : decode cL_law_ 2158 = .ok (.iload 4, 2) := by decide +kernel
theorem dL_law__2160 : decode cL_law_ 2160 = .ok (.iconst 1, 1) := by decide +kernel
theorem dL_law__2161 : decode cL_law_ 2161 = .ok (.iadd, 1) := by decide +kernel
theorem dL_law__2162 : decode cL_law_ 2162 = .ok (.iaload, 1) := by decide +kernel
theorem dL_law__2163 : decode cL_law_ 2163 = .ok (.aload_n 0, 1) := by decide +kernel
theorem dL_law__2164 : decode cL_law_ 2164 = .ok (.iload 4, 2) := by decide +kernel
theorem dL_law__2166 : decode cL_law_ 2166 = .ok (.iconst 2, 1) := by decide +kernel
theorem dL_law__2167 : decode cL_law_ 2167 = .ok (.iadd, 1) := by decide +kernel
theorem dL_law__2168 : decode cL_law_ 2168 = .ok (.iaload, 1) := by decide +kernel
theorem dL_law__2169 : decode cL_law_ 2169 = .ok (.aload_n 0, 1) := by decide +kernel
theorem dL_law__2170 : decode cL_law_ 2170 = .ok (.iload 4, 2) := by decide +kernel
theorem dL_law__2172 : decode cL_law_ 2172 = .ok (.iconst 3, 1) := by decide +kernel
theorem dL_law__2173 : decode cL_law_ 2173 = .ok (.iadd, 1) := by decide +kernel
theorem dL_law__2174 : decode cL_law_ 2174 = .ok (.iaload, 1) := by decide +kernel
theorem dL_law__2175 : decode cL_law_ 2175 = .ok (.aload_n 3, 1) := by decide +kernel
theorem dL_law__2176 : decode cL_law_ 2176 = .ok (.invokestatic 217, 3) := by decide +kernel
theorem dL_law__2179 : decode cL_law_ 2179 = .ok (.istore 5, 2) := by decide +kernel
theorem dL_law__2181 : decode cL_law_ 2181 = .ok (.aload_n 2, 1) := by decide +kernel
theorem dL_law__2182 : decode cL_law_ 2182 = .ok (.aload_n 0, 1) := by decide +kernel
theorem dL_law__2183 : decode cL_law_ 2183 = .ok (.iload 4, 2) := by decide +kernel
theorem dL_law__2185 : decode cL_law_ 2185 = .ok (.iconst 1, 1) := by decide +kernel
theorem dL_law__2186 : decode cL_law_ 2186 = .ok (.iadd, 1) := by decide +kernel
theorem dL_law__2187 : decode cL_law_ 2187 = .ok (.iaload, 1) := by decide +kernel
theorem dL_law__2188 : decode cL_law_ 2188 = .ok (.aload_n 0, 1) := by decide +kernel
theorem dL_law__2189 : decode cL_law_ 2189 = .ok (.iload 4, 2) := by decide +kernel
theorem dL_law__2191 : decode cL_law_ 2191 = .ok (.iconst 2, 1) := by decide +kernel
theorem dL_law__2192 : decode cL_law_ 2192 = .ok (.iadd, 1) := by decide +kernel
theorem dL_law__2193 : decode cL_law_ 2193 = .ok (.iaload, 1) := by decide +kernel
theorem dL_law__2194 : decode cL_law_ 2194 = .ok (.aload_n 0, 1) := by decide +kernel
theorem dL_law__2195 : decode cL_law_ 2195 = .ok (.iload 4, 2) := by decide +kernel
theorem dL_law__2197 : decode cL_law_ 2197 = .ok (.iconst 3, 1) := by decide +kernel
theorem dL_law__2198 : decode cL_law_ 2198 = .ok (.iadd, 1) := by decide +kernel
theorem dL_law__2199 : decode cL_law_ 2199 = .ok (.iaload, 1) := by decide +kernel
theorem dL_law__2200 : decode cL_law_ 2200 = .ok (.invokevirtual 219, 3) := by decide +kernel
theorem dL_law__2203 : decode cL_law_ 2203 = .ok (.istore 6, 2) := by decide +kernel
theorem dL_law__2205 : decode cL_law_ 2205 = .ok (.aload_n 2, 1) := by decide +kernel
theorem dL_law__2206 : decode cL_law_ 2206 = .ok (.invokevirtual 129, 3) := by decide +kernel
theorem dL_law__2209 : decode cL_law_ 2209 = .ok (.iload 5, 2) := by decide +kernel
theorem dL_law__2211 : decode cL_law_ 2211 = .ok (.if_icmp .eq 5, 3) := by decide +kernel
theorem dL_law__2214 : decode cL_law_ 2214 = .ok (.iconst 0, 1) := by decide +kernel
theorem dL_law__2215 : decode cL_law_ 2215 = .ok (.ireturn, 1) := by decide +kernel
theorem dL_law__2216 : decode cL_law_ 2216 = .ok (.iload 5, 2) := by decide +kernel
theorem dL_law__2218 : decode cL_law_ 2218 = .ok (.ifCond .ne 15, 3) := by decide +kernel
theorem dL_law__2221 : decode cL_law_ 2221 = .ok (.aload_n 3, 1) := by decide +kernel
theorem dL_law__2222 : decode cL_law_ 2222 = .ok (.iconst 0, 1) := by decide +kernel
theorem dL_law__2223 : decode cL_law_ 2223 = .ok (.laload, 1) := by decide +kernel
theorem dL_law__2224 : decode cL_law_ 2224 = .ok (.iload 6, 2) := by decide +kernel
theorem dL_law__2226 : decode cL_law_ 2226 = .ok (.i2l, 1) := by decide +kernel
theorem dL_law__2227 : decode cL_law_ 2227 = .ok (.lcmp, 1) := by decide +kernel
theorem dL_law__2228 : decode cL_law_ 2228 = .ok (.ifCond .eq 5, 3) := by decide +kernel
theorem dL_law__2231 : decode cL_law_ 2231 = .ok (.iconst 0, 1) := by decide +kernel
theorem dL_law__2232 : decode cL_law_ 2232 = .ok (.ireturn, 1) := by decide +kernel
theorem dL_law__2233 : decode cL_law_ 2233 = .ok (.goto 338, 3) := by decide +kernel
theorem dL_law__2236 : decode cL_law_ 2236 = .ok (.aload_n 1, 1) := by decide +kernel
theorem dL_law__2237 : decode cL_law_ 2237 = .ok (.aload_n 0, 1) := by decide +kernel
theorem dL_law__2238 : decode cL_law_ 2238 = .ok (.iload 4, 2) := by decide +kernel
theorem dL_law__2240 : decode cL_law_ 2240 = .ok (.iconst 1, 1) := by decide +kernel
theorem dL_law__2241 : decode cL_law_ 2241 = .ok (.iadd, 1) := by decide +kernel
theorem dL_law__2242 : decode cL_law_ 2242 = .ok (.iaload, 1) := by decide +kernel
theorem dL_law__2243 : decode cL_law_ 2243 = .ok (.aload_n 0, 1) := by decide +kernel
theorem dL_law__2244 : decode cL_law_ 2244 = .ok (.iload 4, 2) := by decide +kernel
