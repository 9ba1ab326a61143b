set_option maxRecDepth 100000 in
theorem kV_RL_206 : CalV RL 206 yX11_whence cX11_whence 7 (some .int) 2 := ⟨⟨wT_tab 1070 rfl rfl, wT_tab 1071 rfl rfl, wT_tab 1072 rfl rfl, wT_tab 1 rfl rfl, wT_tab 1073 rfl rfl⟩, ⟨by decide, by decide, by decide +kernel⟩⟩
set_option maxRecDepth 100000 in
theorem kV_RL_209 : CalV RL 209 yX12_whence cX12_whence 3 (some .int) 2 := ⟨⟨wT_tab 1929 rfl rfl, wT_tab 1930 rfl rfl, wT_tab 1931 rfl rfl, wT_tab 13 rfl rfl, wT_tab 1932 rfl rfl⟩, ⟨by decide, by decide, by decide +kernel⟩⟩
set_option maxRecDepth 100000 in
theorem kV_RL_210 : CalV RL 210 yX11_audit cX11_audit 11 (some .int) 2 := ⟨⟨wT_tab 1074 rfl rfl, wT_tab 1075 rfl rfl, wT_tab 1076 rfl rfl, wT_tab 1 rfl rfl, wT_tab 1077 rfl rfl⟩, ⟨by decide, by decide, by decide +kernel⟩⟩
set_option maxRecDepth 100000 in
theorem kV_RL_213 : CalV RL 213 yX12_audit cX12_audit 5 (some .int) 2 := ⟨⟨wT_tab 1937 rfl rfl, wT_tab 1938 rfl rfl, wT_tab 1939 rfl rfl, wT_tab 13 rfl rfl, wT_tab 1940 rfl rfl⟩, ⟨by decide, by decide, by decide +kernel⟩⟩
set_option maxRecDepth 100000 in
theorem kV_RL_214 : CalV RL 214 yX11_use cX11_use 3 (some .boolean) 2 := ⟨⟨wT_tab 1082 rfl rfl, wT_tab 1083 rfl rfl, wT_tab 1084 rfl rfl, wT_tab 1 rfl rfl, wT_tab 1085 rfl rfl⟩, ⟨by decide, by decide, by decide +kernel⟩⟩
set_option maxRecDepth 100000 in
theorem kV_RL_217 : CalV RL 217 yX12_use cX12_use 3 (some .boolean) 2 := ⟨⟨wT_tab 1945 rfl rfl, wT_tab 1946 rfl rfl, wT_tab 1947 rfl rfl, wT_tab 13 rfl rfl, wT_tab 1948 rfl rfl⟩, ⟨by decide, by decide, by decide +kernel⟩⟩
set_option maxRecDepth 100000 in
theorem kV_RL_218 : CalV RL 218 yX11_rate cX11_rate 5 (some .boolean) 3 := ⟨⟨wT_tab 1086 rfl rfl, wT_tab 1087 rfl rfl, wT_tab 1088 rfl rfl, wT_tab 1 rfl rfl, wT_tab 1089 rfl rfl⟩, ⟨by decide, by decide, by decide +kernel⟩⟩
set_option maxRecDepth 100000 in
theorem kV_RL_221 : CalV RL 221 yX12_rate cX12_rate 4 (some .boolean) 3 := ⟨⟨wT_tab 1949 rfl rfl, wT_tab 1950 rfl rfl, wT_tab 1951 rfl rfl, wT_tab 13 rfl rfl, wT_tab 1952 rfl rfl⟩, ⟨by decide, by decide, by decide +kernel⟩⟩
set_option maxRecDepth 100000 in
theorem kV_RL_222 : CalV RL 222 yX11_tax cX11_tax 4 (some .int) 1 := ⟨⟨wT_tab 1090 rfl rfl, wT_tab 1091 rfl rfl, wT_tab 1092 rfl rfl, wT_tab 1 rfl rfl, wT_tab 1093 rfl rfl⟩, ⟨by decide, by decide, by decide +kernel⟩⟩
set_option maxRecDepth 100000 in
theorem kV_RL_225 : CalV RL 225 yX12_tax cX12_tax 2 (some .int) 1 := ⟨⟨wT_tab 1953 rfl rfl, wT_tab 1954 rfl rfl, wT_tab 1955 rfl rfl, wT_tab 13 rfl rfl, wT_tab 1956 rfl rfl⟩, ⟨by decide, by decide, by decide +kernel⟩⟩
set_option maxRecDepth 100000 in
theorem kV_RL_226 : CalV RL 226 yX11_most cX11_most 3 (some .boolean) 2 := ⟨⟨wT_tab 1098 rfl rfl, wT_tab 1099 rfl rfl, wT_tab 1100 rfl rfl, wT_tab 1 rfl rfl, wT_tab 1101 rfl rfl⟩, ⟨by decide, by decide, by decide +kernel⟩⟩
set_option maxRecDepth 100000 in
theorem kV_RL_229 : CalV RL 229 yX12_most cX12_most 3 (some .boolean) 2 := ⟨⟨wT_tab 1957 rfl rfl, wT_tab 1958 rfl rfl, wT_tab 1959 rfl rfl, wT_tab 13 rfl rfl, wT_tab 1960 rfl rfl⟩, ⟨by decide, by decide, by decide +kernel⟩⟩
set_option maxRecDepth 100000 in
theorem kV_RL_230 : CalV RL 230 yX11_overdrawn cX11_overdrawn 4 (some .int) 1 := ⟨⟨wT_tab 1102 rfl rfl, wT_tab 1103 rfl rfl, wT_tab 1104 rfl rfl, wT_tab 1 rfl rfl, wT_tab 1105 rfl rfl⟩, ⟨by decide, by decide, by decide +kernel⟩⟩
set_option maxRecDepth 100000 in
theorem kV_RL_233 : CalV RL 233 yX12_overdrawn cX12_overdrawn 6 (some .int) 1 := ⟨⟨wT_tab 1961 rfl rfl, wT_tab 1962 rfl rfl, wT_tab 1963 rfl rfl, wT_tab 13 rfl rfl, wT_tab 1964 rfl rfl⟩, ⟨by decide, by decide, by decide +kernel⟩⟩
set_option maxRecDepth 100000 in
theorem kV_RL_234 : CalV RL 234 yX11_sample cX11_sample 4 (some .int) 2 := ⟨⟨wT_tab 1110 rfl rfl, wT_tab 1111 rfl rfl, wT_tab 1112 rfl rfl, wT_tab 1 rfl rfl, wT_tab 1113 rfl rfl⟩, ⟨by decide, by decide, by decide +kernel⟩⟩
set_option maxRecDepth 100000 in
theorem kV_RL_237 : CalV RL 237 yX12_sample cX12_sample 3 (some .int) 2 := ⟨⟨wT_tab 1965 rfl rfl, wT_tab 1966 rfl rfl, wT_tab 1967 rfl rfl, wT_tab 13 rfl rfl, wT_tab 1968 rfl rfl⟩, ⟨by decide, by decide, by decide +kernel⟩⟩
set_option maxRecDepth 100000 in
theorem kV_RL_238 : CalV RL 238 yX11_claim cX11_claim 7 (some .int) 3 := ⟨⟨wT_tab 1119 rfl rfl, wT_tab 1120 rfl rfl, wT_tab 1121 rfl rfl, wT_tab 1 rfl rfl, wT_tab 1122 rfl rfl⟩, ⟨by decide, by decide, by decide +kernel⟩⟩
set_option maxRecDepth 100000 in
theorem kV_RL_241 : CalV RL 241 yX12_claim cX12_claim 6 (some .int) 3 := ⟨⟨wT_tab 1969 rfl rfl, wT_tab 1970 rfl rfl, wT_tab 1971 rfl rfl, wT_tab 13 rfl rfl, wT_tab 1972 rfl rfl⟩, ⟨by decide, by decide, by decide +kernel⟩⟩
set_option maxRecDepth 100000 in
theorem kV_RL_242 : CalV RL 242 yX11_spill cX11_spill 3 (some .int) 2 := ⟨⟨wT_tab 1266 rfl rfl, wT_tab 1267 rfl rfl, wT_tab 1268 rfl rfl, wT_tab 1 rfl rfl, wT_tab 1269 rfl rfl⟩, ⟨by decide, by decide, by decide +kernel⟩⟩
set_option maxRecDepth 100000 in
theorem kV_RL_245 : CalV RL 245 yX12_spill cX12_spill 3 (some .int) 2 := ⟨⟨wT_tab 1973 rfl rfl, wT_tab 1974 rfl rfl, wT_tab 1975 rfl rfl, wT_tab 13 rfl rfl, wT_tab 1976 rfl rfl⟩, ⟨by decide, by decide, by decide +kernel⟩⟩
set_option maxRecDepth 100000 in
theorem kV_RL_246 : CalV RL 246 yX11_stock cX11_stock 4 (some .int) 1 := ⟨⟨wT_tab 1270 rfl rfl, wT_tab 1271 rfl rfl, wT_tab 1272 rfl rfl, wT_tab 1 rfl rfl, wT_tab 1273 rfl rfl⟩, ⟨by decide, by decide, by decide +kernel⟩⟩
set_option maxRecDepth 100000 in
theorem kV_RL_249 : CalV RL 249 yX12_stock cX12_stock 2 (some .int) 1 := ⟨⟨wT_tab 1977 rfl rfl, wT_tab 1978 rfl rfl, wT_tab 1979 rfl rfl, wT_tab 13 rfl rfl, wT_tab 1980 rfl rfl⟩, ⟨by decide, by decide, by decide +kernel⟩⟩
set_option maxRecDepth 100000 in
theorem kV_RL_250 : CalV RL 250 yX11_below cX11_below 4 (some .int) 1 := ⟨⟨wT_tab 1274 rfl rfl, wT_tab 1275 rfl rfl, wT_tab 1276 rfl rfl, wT_tab 1 rfl rfl, wT_tab 1277 rfl rfl⟩, ⟨by decide, by decide, by decide +kernel⟩⟩
set_option maxRecDepth 100000 in
theorem kV_RL_253 : CalV RL 253 yX12_below cX12_below 3 (some .int) 1 := ⟨⟨wT_tab 1986 rfl rfl, wT_tab 1987 rfl rfl, wT_tab 1988 rfl rfl, wT_tab 13 rfl rfl, wT_tab 1989 rfl rfl⟩, ⟨by decide, by decide, by decide +kernel⟩⟩
set_option maxRecDepth 100000 in
theorem kV_RL_254 : CalV RL 254 yX11_check cX11_check 4 (some .int) 2 := ⟨⟨wT_tab 1278 rfl rfl, wT_tab 1279 rfl rfl, wT_tab 1280 rfl rfl, wT_tab 1 rfl rfl, wT_tab 1281 rfl rfl⟩, ⟨by decide, by decide, by decide +kernel⟩⟩
set_option maxRecDepth 100000 in
theorem kV_RL_257 : CalV RL 257 yX12_check cX12_check 5 (some .int) 2 := ⟨⟨wT_tab 2046 rfl rfl, wT_tab 2047 rfl rfl, wT_tab 2048 rfl rfl, wT_tab 13 rfl rfl, wT_tab 2049 rfl rfl⟩, ⟨by decide, by decide, by decide +kernel⟩⟩
set_option maxRecDepth 100000 in
theorem kV_RL_258 : CalV RL 258 yX11_count cX11_count 3 (some .int) 1 := ⟨⟨wT_tab 1295 rfl rfl, wT_tab 1296 rfl rfl, wT_tab 1297 rfl rfl, wT_tab 1 rfl rfl, wT_tab 1298 rfl rfl⟩, ⟨by decide, by decide, by decide +kernel⟩⟩
set_option maxRecDepth 100000 in
theorem kV_RL_261 : CalV RL 261 yX12_count cX12_count 2 (some .int) 1 := ⟨⟨wT_tab 2054 rfl rfl, wT_tab 2055 rfl rfl, wT_tab 2056 rfl rfl, wT_tab 13 rfl rfl, wT_tab 2057 rfl rfl⟩, ⟨by decide, by decide, by decide +kernel⟩⟩
theorem dL_law_1840 : decode code 1840 = .ok (.aload_n 1, 1) := by decide +kernel
theorem dL_law_1841 : decode code 1841 = .ok (.aload_n 0, 1) := by decide +kernel
theorem dL_law_1842 : decode code 1842 = .ok (.iload_n 3, 1) := by decide +kernel
theorem dL_law_1843 : decode code 1843 = .ok (.iconst 1, 1) := by decide +kernel
theorem dL_law_1844 : decode code 1844 = .ok (.iadd, 1) := by decide +kernel
theorem dL_law_1845 : decode code 1845 = .ok (.iaload, 1) := by decide +kernel
theorem dL_law_1846 : decode code 1846 = .ok (.aload_n 0, 1) := by decide +kernel
theorem dL_law_1847 : decode code 1847 = .ok (.iload_n 3, 1) := by decide +kernel
theorem dL_law_1848 : decode code 1848 = .ok (.iconst 2, 1) := by decide +kernel
theorem dL_law_1849 : decode code 1849 = .ok (.iadd, 1) := by decide +kernel
theorem dL_law_1850 : decode code 1850 = .ok (.iaload, 1) := by decide +kernel
theorem dL_law_1851 : decode code 1851 = .ok (.invokevirtual 206, 3) := by decide +kernel
theorem dL_law_1854 : decode code 1854 = .ok (.aload_n 2, 1) := by decide +kernel
theorem dL_law_1855 : decode code 1855 = .ok (.aload_n 0, 1) := by decide +kernel
theorem dL_law_1856 : decode code 1856 = .ok (.iload_n 3, 1) := by decide +kernel
theorem dL_law_1857 : decode code 1857 = .ok (.iconst 1, 1) := by decide +kernel
theorem dL_law_1858 : decode code 1858 = .ok (.iadd, 1) := by decide +kernel
theorem dL_law_1859 : decode code 1859 = .ok (.iaload, 1) := by decide +kernel
theorem dL_law_1860 : decode code 1860 = .ok (.aload_n 0, 1) := by decide +kernel
theorem dL_law_1861 : decode code 1861 = .ok (.iload_n 3, 1) := by decide +kernel
theorem dL_law_1862 : decode code 1862 = .ok (.iconst 2, 1) := by decide +kernel
theorem dL_law_1863 : decode code 1863 = .ok (.iadd, 1) := by decide +kernel
theorem dL_law_1864 : decode code 1864 = .ok (.iaload, 1) := by decide +kernel
theorem dL_law_1865 : decode code 1865 = .ok (.invokevirtual 209, 3) := by decide +kernel
theorem dL_law_1868 : decode code 1868 = .ok (.if_icmp .eq 404, 3) := by decide +kernel
theorem dL_law_1873 : decode code 1873 = .ok (.aload_n 1, 1) := by decide +kernel
theorem dL_law_1874 : decode code 1874 = .ok (.aload_n 0, 1) := by decide +kernel
theorem dL_law_1875 : decode code 1875 = .ok (.iload_n 3, 1) := by decide +kernel
theorem dL_law_1876 : decode code 1876 = .ok (.iconst 1, 1) := by decide +kernel
theorem dL_law_1877 : decode code 1877 = .ok (.iadd, 1) := by decide +kernel
theorem dL_law_1878 : decode code 1878 = .ok (.iaload, 1) := by decide +kernel
theorem dL_law_1879 : decode code 1879 = .ok (.aload_n 0, 1) := by decide +kernel
theorem dL_law_1880 : decode code 1880 = .ok (.iload_n 3, 1) := by decide +kernel
theorem dL_law_1881 : decode code 1881 = .ok (.iconst 2, 1) := by decide +kernel
theorem dL_law_1882 : decode code 1882 = .ok (.iadd, 1) := by decide +kernel
theorem dL_law_1883 : decode code 1883 = .ok (.iaload, 1) := by decide +kernel
theorem dL_law_1884 : decode code 1884 = .ok (.invokevirtual 210, 3) := by decide +kernel
theorem dL_law_1887 : decode code 1887 = .ok (.aload_n 2, 1) := by decide +kernel
theorem dL_law_1888 : decode code 1888 = .ok (.aload_n 0, 1) := by decide +kernel
theorem dL_law_1889 : decode code 1889 = .ok (.iload_n 3, 1) := by decide +kernel
theorem dL_law_1890 : decode code 1890 = .ok (.iconst 1, 1) := by decide +kernel
theorem dL_law_1891 : decode code 1891 = .ok (.iadd, 1) := by decide +kernel
theorem dL_law_1892 : decode code 1892 = .ok (.iaload, 1) := by decide +kernel
theorem dL_law_1893 : decode code 1893 = .ok (.aload_n 0, 1) := by decide +kernel
theorem dL_law_1894 : decode code 1894 = .ok (.iload_n 3, 1) := by decide +kernel
theorem dL_law_1895 : decode code 1895 = .ok (.iconst 2, 1) := by decide +kernel
theorem dL_law_1896 : decode code 1896 = .ok (.iadd, 1) := by decide +kernel
theorem dL_law_1897 : decode code 1897 = .ok (.iaload, 1) := by decide +kernel
theorem dL_law_1898 : decode code 1898 = .ok (.invokevirtual 213, 3) := by decide +kernel
theorem dL_law_1901 : decode code 1901 = .ok (.if_icmp .eq 371, 3) := by decide +kernel
theorem dL_law_1906 : decode code 1906 = .ok (.aload_n 1, 1) := by decide +kernel
theorem dL_law_1907 : decode code 1907 = .ok (.aload_n 0, 1) := by decide +kernel
theorem dL_law_1908 : decode code 1908 = .ok (.iload_n 3, 1) := by decide +kernel
theorem dL_law_1909 : decode code 1909 = .ok (.iconst 1, 1) := by decide +kernel
theorem dL_law_1910 : decode code 1910 = .ok (.iadd, 1) := by decide +kernel
theorem dL_law_1911 : decode code 1911 = .ok (.iaload, 1) := by decide +kernel
theorem dL_law_1912 : decode code 1912 = .ok (.aload_n 0, 1) := by decide +kernel
theorem dL_law_1913 : decode code 1913 = .ok (.iload_n 3, 1) := by decide +kernel
theorem dL_law_1914 : decode code 1914 = .ok (.iconst 2, 1) := by decide +kernel
theorem dL_law_1915 : decode code 1915 = .ok (.iadd, 1) := by decide +kernel
theorem dL_law_1916 : decode code 1916 = .ok (.iaload, 1) := by decide +kernel
theorem dL_law_1917 : decode code 1917 = .ok (.invokevirtual 214, 3) := by decide +kernel
theorem dL_law_1920 : decode code 1920 = .ok (.aload_n 2, 1) := by decide +kernel
theorem dL_law_1921 : decode code 1921 = .ok (.aload_n 0, 1) := by decide +kernel
theorem dL_law_1922 : decode code 1922 = .ok (.iload_n 3, 1) := by decide +kernel
theorem dL_law_1923 : decode code 1923 = .ok (.iconst 1, 1) := by decide +kernel
theorem dL_law_1924 : decode code 1924 = .ok (.iadd, 1) := by decide +kernel
theorem dL_law_1925 : decode code 1925 = .ok (.iaload, 1) := by decide +kernel
theorem dL_law_1926 : decode code 1926 = .ok (.aload_n 0, 1) := by decide +kernel
theorem dL_law_1927 : decode code 1927 = .ok (.iload_n 3, 1) := by decide +kernel
theorem dL_law_1928 : decode code 1928 = .ok (.iconst 2, 1) := by decide +kernel
theorem dL_law_1929 : decode code 1929 = .ok (.iadd, 1) := by decide +kernel
theorem dL_law_1930 : decode code 1930 = .ok (.iaload, 1) := by decide +kernel
theorem dL_law_1931 : decode code 1931 = .ok (.invokevirtual 217, 3) := by decide +kernel
theorem dL_law_1934 : decode code 1934 = .ok (.if_icmp .eq 338, 3) := by decide +kernel
theorem dL_law_1939 : decode code 1939 = .ok (.aload_n 1, 1) := by decide +kernel
theorem dL_law_1940 : decode code 1940 = .ok (.aload_n 0, 1) := by decide +kernel
theorem dL_law_1941 : decode code 1941 = .ok (.iload_n 3, 1) := by decide +kernel
theorem dL_law_1942 : decode code 1942 = .ok (.iconst 1, 1) := by decide +kernel
theorem dL_law_1943 : decode code 1943 = .ok (.iadd, 1) := by decide +kernel
theorem dL_law_1944 : decode code 1944 = .ok (.iaload, 1) := by decide +kernel
theorem dL_law_1945 : decode code 1945 = .ok (.aload_n 0, 1) := by decide +kernel
theorem dL_law_1946 : decode code 1946 = .ok (.iload_n 3, 1) := by decide +kernel
theorem dL_law_1947 : decode code 1947 = .ok (.iconst 2, 1) := by decide +kernel
theorem dL_law_1948 : decode code 1948 = .ok (.iadd, 1) := by decide +kernel
theorem dL_law_1949 : decode code 1949 = .ok (.iaload, 1) := by decide +kernel
theorem dL_law_1950 : decode code 1950 = .ok (.aload_n 0, 1) := by decide +kernel
theorem dL_law_1951 : decode code 1951 = .ok (.iload_n 3, 1) := by decide +kernel
theorem dL_law_1952 : decode code 1952 = .ok (.iconst 3, 1) := by decide +kernel
theorem dL_law_1953 : decode code 1953 = .ok (.iadd, 1) := by decide +kernel
theorem dL_law_1954 : decode code 1954 = .ok (.iaload, 1) := by decide +kernel
theorem dL_law_1955 : decode code 1955 = .ok (.invokevirtual 218, 3) := by decide +kernel
theorem dL_law_1958 : decode code 1958 = .ok (.aload_n 2, 1) := by decide +kernel
theorem dL_law_1959 : decode code 1959 = .ok (.aload_n 0, 1) := by decide +kernel
theorem dL_law_1960 : decode code 1960 = .ok (.iload_n 3, 1) := by decide +kernel
theorem dL_law_1961 : decode code 1961 = .ok (.iconst 1, 1) := by decide +kernel
theorem dL_law_1962 : decode code 1962 = .ok (.iadd, 1) := by decide +kernel
theorem dL_law_1963 : decode code 1963 = .ok (.iaload, 1) := by decide +kernel
theorem dL_law_1964 : decode code 1964 = .ok (.aload_n 0, 1) := by decide +kernel
theorem dL_law_1965 : decode code 1965 = .ok (.iload_n 3, 1) := by decide +kernel
theorem dL_law_1966 : decode code 1966 = .ok (.iconst 2, 1) := by decide +kernel
theorem dL_law_1967 : decode code 1967 = .ok (.iadd, 1) := by decide +kernel
theorem dL_law_1968 : decode code 1968 = .ok (.iaload, 1) := by decide +kernel
theorem dL_law_1969 : decode code 1969 = .ok (.aload_n 0, 1) := by decide +kernel
theorem dL_law_1970 : decode code 1970 = .ok (.iload_n 3, 1) := by decide +kernel
theorem dL_law_1971 : decode code 1971 = .ok (.iconst 3, 1) := by decide +kernel
theorem dL_law_1972 : decode code 1972 = .ok (.iadd, 1) := by decide +kernel
theorem dL_law_1973 : decode code 1973 = .ok (.iaload, 1) := by decide +kernel
theorem dL_law_1974 : decode code 1974 = .ok (.invokevirtual 221, 3) := by decide +kernel
theorem dL_law_1977 : decode code 1977 = .ok (.if_icmp .eq 295, 3) := by decide +kernel
theorem dL_law_1982 : decode code 1982 = .ok (.aload_n 1, 1) := by decide +kernel
theorem dL_law_1983 : decode code 1983 = .ok (.aload_n 0, 1) := by decide +kernel
theorem dL_law_1984 : decode code 1984 = .ok (.iload_n 3, 1) := by decide +kernel
theorem dL_law_1985 : decode code 1985 = .ok (.iconst 1, 1) := by decide +kernel
theorem dL_law_1986 : decode code 1986 = .ok (.iadd, 1) := by decide +kernel
theorem dL_law_1987 : decode code 1987 = .ok (.iaload, 1) := by decide +kernel
theorem dL_law_1988 : decode code 1988 = .ok (.invokevirtual 222, 3) := by decide +kernel
theorem dL_law_1991 : decode code 1991 = .ok (.aload_n 2, 1) := by decide +kernel
theorem dL_law_1992 : decode code 1992 = .ok (.aload_n 0, 1) := by decide +kernel
theorem dL_law_1993 : decode code 1993 = .ok (.iload_n 3, 1) := by decide +kernel
theorem dL_law_1994 : decode code 1994 = .ok (.iconst 1, 1) := by decide +kernel
theorem dL_law_1995 : decode code 1995 = .ok (.iadd, 1) := by decide +kernel
theorem dL_law_1996 : decode code 1996 = .ok (.iaload, 1) := by decide +kernel
theorem dL_law_1997 : decode code 1997 = .ok (.invokevirtual 225, 3) := by decide +kernel
theorem dL_law_2000 : decode code 2000 = .ok (.if_icmp .eq 272, 3) := by decide +kernel
theorem dL_law_2005 : decode code 2005 = .ok (.aload_n 1, 1) := by decide +kernel
theorem dL_law_2006 : decode code 2006 = .ok (.aload_n 0, 1) := by decide +kernel
theorem dL_law_2007 : decode code 2007 = .ok (.iload_n 3, 1) := by decide +kernel
theorem dL_law_2008 : decode code 2008 = .ok (.iconst 1, 1) := by decide +kernel
theorem dL_law_2009 : decode code 2009 = .ok (.iadd, 1) := by decide +kernel
theorem dL_law_2010 : decode code 2010 = .ok (.iaload, 1) := by decide +kernel
theorem dL_law_2011 : decode code 2011 = .ok (.aload_n 0, 1) := by decide +kernel
theorem dL_law_2012 : decode code 2012 = .ok (.iload_n 3, 1) := by decide +kernel
theorem dL_law_2013 : decode code 2013 = .ok (.iconst 2, 1) := by decide +kernel
theorem dL_law_2014 : decode code 2014 = .ok (.iadd, 1) := by decide +kernel
theorem dL_law_2015 : decode code 2015 = .ok (.iaload, 1) := by decide +kernel
theorem dL_law_2016 : decode code 2016 = .ok (.invokevirtual 226, 3) := by decide +kernel
theorem dL_law_2019 : decode code 2019 = .ok (.aload_n 2, 1) := by decide +kernel
theorem dL_law_2020 : decode code 2020 = .ok (.aload_n 0, 1) := by decide +kernel
theorem dL_law_2021 : decode code 2021 = .ok (.iload_n 3, 1) := by decide +kernel
theorem dL_law_2022 : decode code 2022 = .ok (.iconst 1, 1) := by decide +kernel
theorem dL_law_2023 : decode code 2023 = .ok (.iadd, 1) := by decide +kernel
theorem dL_law_2024 : decode code 2024 = .ok (.iaload, 1) := by decide +kernel
theorem dL_law_2025 : decode code 2025 = .ok (.aload_n 0, 1) := by decide +kernel
theorem dL_law_2026 : decode code 2026 = .ok (.iload_n 3, 1) := by decide +kernel
theorem dL_law_2027 : decode code 2027 = .ok (.iconst 2, 1) := by decide +kernel
theorem dL_law_2028 : decode code 2028 = .ok (.iadd, 1) := by decide +kernel
theorem dL_law_2029 : decode code 2029 = .ok (.iaload, 1) := by decide +kernel
theorem dL_law_2030 : decode code 2030 = .ok (.invokevirtual 229, 3) := by decide +kernel
theorem dL_law_2033 : decode code 2033 = .ok (.if_icmp .eq 239, 3) := by decide +kernel
theorem dL_law_2038 : decode code 2038 = .ok (.aload_n 1, 1) := by decide +kernel
theorem dL_law_2039 : decode code 2039 = .ok (.aload_n 0, 1) := by decide +kernel
theorem dL_law_2040 : decode code 2040 = .ok (.iload_n 3, 1) := by decide +kernel
theorem dL_law_2041 : decode code 2041 = .ok (.iconst 1, 1) := by decide +kernel
theorem dL_law_2042 : decode code 2042 = .ok (.iadd, 1) := by decide +kernel
theorem dL_law_2043 : decode code 2043 = .ok (.iaload, 1) := by decide +kernel
theorem dL_law_2044 : decode code 2044 = .ok (.invokevirtual 230, 3) := by decide +kernel
theorem dL_law_2047 : decode code 2047 = .ok (.aload_n 2, 1) := by decide +kernel
theorem dL_law_2048 : decode code 2048 = .ok (.aload_n 0, 1) := by decide +kernel
theorem dL_law_2049 : decode code 2049 = .ok (.iload_n 3, 1) := by decide +kernel
theorem dL_law_2050 : decode code 2050 = .ok (.iconst 1, 1) := by decide +kernel
theorem dL_law_2051 : decode code 2051 = .ok (.iadd, 1) := by decide +kernel
theorem dL_law_2052 : decode code 2052 = .ok (.iaload, 1) := by decide +kernel
theorem dL_law_2053 : decode code 2053 = .ok (.invokevirtual 233, 3) := by decide +kernel
theorem dL_law_2056 : decode code 2056 = .ok (.if_icmp .eq 216, 3) := by decide +kernel
theorem dL_law_2061 : decode code 2061 = .ok (.aload_n 1, 1) := by decide +kernel
theorem dL_law_2062 : decode code 2062 = .ok (.aload_n 0, 1) := by decide +kernel
theorem dL_law_2063 : decode code 2063 = .ok (.iload_n 3, 1) := by decide +kernel
theorem dL_law_2064 : decode code 2064 = .ok (.iconst 1, 1) := by decide +kernel
theorem dL_law_2065 : decode code 2065 = .ok (.iadd, 1) := by decide +kernel
theorem dL_law_2066 : decode code 2066 = .ok (.iaload, 1) := by decide +kernel
theorem dL_law_2067 : decode code 2067 = .ok (.aload_n 0, 1) := by decide +kernel
theorem dL_law_2068 : decode code 2068 = .ok (.iload_n 3, 1) := by decide +kernel
theorem dL_law_2069 : decode code 2069 = .ok (.iconst 2, 1) := by decide +kernel
theorem dL_law_2070 : decode code 2070 = .ok (.iadd, 1) := by decide +kernel
theorem dL_law_2071 : decode code 2071 = .ok (.iaload, 1) := by decide +kernel
theorem dL_law_2072 : decode code 2072 = .ok (.invokevirtual 234, 3) := by decide +kernel
theorem dL_law_2075 : decode code 2075 = .ok (.aload_n 2, 1) := by decide +kernel
theorem dL_law_2076 : decode code 2076 = .ok (.aload_n 0, 1) := by decide +kernel
theorem dL_law_2077 : decode code 2077 = .ok (.iload_n 3, 1) := by decide +kernel
theorem dL_law_2078 : decode code 2078 = .ok (.iconst 1, 1) := by decide +kernel
theorem dL_law_2079 : decode code 2079 = .ok (.iadd, 1) := by decide +kernel
theorem dL_law_2080 : decode code 2080 = .ok (.iaload, 1) := by decide +kernel
theorem dL_law_2081 : decode code 2081 = .ok (.aload_n 0, 1) := by decide +kernel
theorem dL_law_2082 : decode code 2082 = .ok (.iload_n 3, 1) := by decide +kernel
theorem dL_law_2083 : decode code 2083 = .ok (.iconst 2, 1) := by decide +kernel
theorem dL_law_2084 : decode code 2084 = .ok (.iadd, 1) := by decide +kernel
theorem dL_law_2085 : decode code 2085 = .ok (.iaload, 1) := by decide +kernel
theorem dL_law_2086 : decode code 2086 = .ok (.invokevirtual 237, 3) := by decide +kernel
theorem dL_law_2089 : decode code 2089 = .ok (.if_icmp .eq 183, 3) := by decide +kernel
theorem dL_law_2094 : decode code 2094 = .ok (.aload_n 1, 1) := by decide +kernel
theorem dL_law_2095 : decode code 2095 = .ok (.aload_n 0, 1) := by decide +kernel
theorem dL_law_2096 : decode code 2096 = .ok (.iload_n 3, 1) := by decide +kernel
theorem dL_law_2097 : decode code 2097 = .ok (.iconst 1, 1) := by decide +kernel
theorem dL_law_2098 : decode code 2098 = .ok (.iadd, 1) := by decide +kernel
theorem dL_law_2099 : decode code 2099 = .ok (.iaload, 1) := by decide +kernel
theorem dL_law_2100 : decode code 2100 = .ok (.aload_n 0, 1) := by decide +kernel
theorem dL_law_2101 : decode code 2101 = .ok (.iload_n 3, 1) := by decide +kernel
theorem dL_law_2102 : decode code 2102 = .ok (.iconst 2, 1) := by decide +kernel
theorem dL_law_2103 : decode code 2103 = .ok (.iadd, 1) := by decide +kernel
theorem dL_law_2104 : decode code 2104 = .ok (.iaload, 1) := by decide +kernel
theorem dL_law_2105 : decode code 2105 = .ok (.aload_n 0, 1) := by decide +kernel
theorem dL_law_2106 : decode code 2106 = .ok (.iload_n 3, 1) := by decide +kernel
theorem dL_law_2107 : decode code 2107 = .ok (.iconst 3, 1) := by decide +kernel
theorem dL_law_2108 : decode code 2108 = .ok (.iadd, 1) := by decide +kernel
theorem dL_law_2109 : decode code 2109 = .ok (.iaload, 1) := by decide +kernel
theorem dL_law_2110 : decode code 2110 = .ok (.invokevirtual 238, 3) := by decide +kernel
theorem dL_law_2113 : decode code 2113 = .ok (.aload_n 2, 1) := by decide +kernel
theorem dL_law_2114 : decode code 2114 = .ok (.aload_n 0, 1) := by decide +kernel
theorem dL_law_2115 : decode code 2115 = .ok (.iload_n 3, 1) := by decide +kernel
theorem dL_law_2116 : decode code 2116 = .ok (.iconst 1, 1) := by decide +kernel
theorem dL_law_2117 : decode code 2117 = .ok (.iadd, 1) := by decide +kernel
theorem dL_law_2118 : decode code 2118 = .ok (.iaload, 1) := by decide +kernel
theorem dL_law_2119 : decode code 2119 = .ok (.aload_n 0, 1) := by decide +kernel
theorem dL_law_2120 : decode code 2120 = .ok (.iload_n 3, 1) := by decide +kernel
theorem dL_law_2121 : decode code 2121 = .ok (.iconst 2, 1) := by decide +kernel
theorem dL_law_2122 : decode code 2122 = .ok (.iadd, 1) := by decide +kernel
theorem dL_law_2123 : decode code 2123 = .ok (.iaload, 1) := by decide +kernel
theorem dL_law_2124 : decode code 2124 = .ok (.aload_n 0, 1) := by decide +kernel
theorem dL_law_2125 : decode code 2125 = .ok (.iload_n 3, 1) := by decide +kernel
theorem dL_law_2126 : decode code 2126 = .ok (.iconst 3, 1) := by decide +kernel
theorem dL_law_2127 : decode code 2127 = .ok (.iadd, 1) := by decide +kernel
theorem dL_law_2128 : decode code 2128 = .ok (.iaload, 1) := by decide +kernel
theorem dL_law_2129 : decode code 2129 = .ok (.invokevirtual 241, 3) := by decide +kernel
theorem dL_law_2132 : decode code 2132 = .ok (.if_icmp .eq 140, 3) := by decide +kernel
theorem dL_law_2137 : decode code 2137 = .ok (.aload_n 1, 1) := by decide +kernel
theorem dL_law_2138 : decode code 2138 = .ok (.aload_n 0, 1) := by decide +kernel
theorem dL_law_2139 : decode code 2139 = .ok (.iload_n 3, 1) := by decide +kernel
theorem dL_law_2140 : decode code 2140 = .ok (.iconst 1, 1) := by decide +kernel
theorem dL_law_2141 : decode code 2141 = .ok (.iadd, 1) := by decide +kernel
theorem dL_law_2142 : decode code 2142 = .ok (.iaload, 1) := by decide +kernel
theorem dL_law_2143 : decode code 2143 = .ok (.aload_n 0, 1) := by decide +kernel
theorem dL_law_2144 : decode code 2144 = .ok (.iload_n 3, 1) := by decide +kernel
theorem dL_law_2145 : decode code 2145 = .ok (.iconst 2, 1) := by decide +kernel
theorem dL_law_2146 : decode code 2146 = .ok (.iadd, 1) := by decide +kernel
theorem dL_law_2147 : decode code 2147 = .ok (.iaload, 1) := by decide +kernel
theorem dL_law_2148 : decode code 2148 = .ok (.invokevirtual 242, 3) := by decide +kernel
theorem dL_law_2151 : decode code 2151 = .ok (.aload_n 2, 1) := by decide +kernel
theorem dL_law_2152 : decode code 2152 = .ok (.aload_n 0, 1) := by decide +kernel
theorem dL_law_2153 : decode code 2153 = .ok (.iload_n 3, 1) := by decide +kernel
theorem dL_law_2154 : decode code 2154 = .ok (.iconst 1, 1) := by decide +kernel
theorem dL_law_2155 : decode code 2155 = .ok (.iadd, 1) := by decide +kernel
theorem dL_law_2156 : decode code 2156 = .ok (.iaload, 1) := by decide +kernel
theorem dL_law_2157 : decode code 2157 = .ok (.aload_n 0, 1) := by decide +kernel
theorem dL_law_2158 : decode code 2158 = .ok (.iload_n 3, 1) := by decide +kernel
theorem dL_law_2159 : decode code 2159 = .ok (.iconst 2, 1) := by decide +kernel
theorem dL_law_2160 : decode code 2160 = .ok (.iadd, 1) := by decide +kernel
theorem dL_law_2161 : decode code 2161 = .ok (.iaload, 1) := by decide +kernel
theorem dL_law_2162 : decode code 2162 = .ok (.invokevirtual 245, 3) := by decide +kernel
theorem dL_law_2165 : decode code 2165 = .ok (.if_icmp .eq 107, 3) := by decide +kernel
theorem dL_law_2170 : decode code 2170 = .ok (.aload_n 1, 1) := by decide +kernel
theorem dL_law_2171 : decode code 2171 = .ok (.aload_n 0, 1) := by decide +kernel
theorem dL_law_2172 : decode code 2172 = .ok (.iload_n 3, 1) := by decide +kernel
theorem dL_law_2173 : decode code 2173 = .ok (.iconst 1, 1) := by decide +kernel
theorem dL_law_2174 : decode code 2174 = .ok (.iadd, 1) := by decide +kernel
theorem dL_law_2175 : decode code 2175 = .ok (.iaload, 1) := by decide +kernel
theorem dL_law_2176 : decode code 2176 = .ok (.invokevirtual 246, 3) := by decide +kernel
theorem dL_law_2179 : decode code 2179 = .ok (.aload_n 2, 1) := by decide +kernel
theorem dL_law_2180 : decode code 2180 = .ok (.aload_n 0, 1) := by decide +kernel
theorem dL_law_2181 : decode code 2181 = .ok (.iload_n 3, 1) := by decide +kernel
theorem dL_law_2182 : decode code 2182 = .ok (.iconst 1, 1) := by decide +kernel
theorem dL_law_2183 : decode code 2183 = .ok (.iadd, 1) := by decide +kernel
theorem dL_law_2184 : decode code 2184 = .ok (.iaload, 1) := by decide +kernel
theorem dL_law_2185 : decode code 2185 = .ok (.invokevirtual 249, 3) := by decide +kernel
theorem dL_law_2188 : decode code 2188 = .ok (.if_icmp .eq 84, 3) := by decide +kernel
theorem dL_law_2193 : decode code 2193 = .ok (.aload_n 1, 1) := by decide +kernel
theorem dL_law_2194 : decode code 2194 = .ok (.aload_n 0, 1) := by decide +kernel
theorem dL_law_2195 : decode code 2195 = .ok (.iload_n 3, 1) := by decide +kernel
theorem dL_law_2196 : decode code 2196 = .ok (.iconst 1, 1) := by decide +kernel
theorem dL_law_2197 : decode code 2197 = .ok (.iadd, 1) := by decide +kernel
theorem dL_law_2198 : decode code 2198 = .ok (.iaload, 1) := by decide +kernel
theorem dL_law_2199 : decode code 2199 = .ok (.invokevirtual 250, 3) := by decide +kernel
theorem dL_law_2202 : decode code 2202 = .ok (.aload_n 2, 1) := by decide +kernel
theorem dL_law_2203 : decode code 2203 = .ok (.aload_n 0, 1) := by decide +kernel
theorem dL_law_2204 : decode code 2204 = .ok (.iload_n 3, 1) := by decide +kernel
theorem dL_law_2205 : decode code 2205 = .ok (.iconst 1, 1) := by decide +kernel
theorem dL_law_2206 : decode code 2206 = .ok (.iadd, 1) := by decide +kernel
theorem dL_law_2207 : decode code 2207 = .ok (.iaload, 1) := by decide +kernel
theorem dL_law_2208 : decode code 2208 = .ok (.invokevirtual 253, 3) := by decide +kernel
theorem dL_law_2211 : decode code 2211 = .ok (.if_icmp .eq 61, 3) := by decide +kernel
theorem dL_law_2216 : decode code 2216 = .ok (.aload_n 1, 1) := by decide +kernel
theorem dL_law_2217 : decode code 2217 = .ok (.aload_n 0, 1) := by decide +kernel
theorem dL_law_2218 : decode code 2218 = .ok (.iload_n 3, 1) := by decide +kernel
theorem dL_law_2219 : decode code 2219 = .ok (.iconst 1, 1) := by decide +kernel
theorem dL_law_2220 : decode code 2220 = .ok (.iadd, 1) := by decide +kernel
theorem dL_law_2221 : decode code 2221 = .ok (.iaload, 1) := by decide +kernel
theorem dL_law_2222 : decode code 2222 = .ok (.aload_n 0, 1) := by decide +kernel
theorem dL_law_2223 : decode code 2223 = .ok (.iload_n 3, 1) := by decide +kernel
theorem dL_law_2224 : decode code 2224 = .ok (.iconst 2, 1) := by decide +kernel
theorem dL_law_2225 : decode code 2225 = .ok (.iadd, 1) := by decide +kernel
theorem dL_law_2226 : decode code 2226 = .ok (.iaload, 1) := by decide +kernel
theorem dL_law_2227 : decode code 2227 = .ok (.invokevirtual 254, 3) := by decide +kernel
theorem dL_law_2230 : decode code 2230 = .ok (.aload_n 2, 1) := by decide +kernel
theorem dL_law_2231 : decode code 2231 = .ok (.aload_n 0, 1) := by decide +kernel
theorem dL_law_2232 : decode code 2232 = .ok (.iload_n 3, 1) := by decide +kernel
theorem dL_law_2233 : decode code 2233 = .ok (.iconst 1, 1) := by decide +kernel
theorem dL_law_2234 : decode code 2234 = .ok (.iadd, 1) := by decide +kernel
theorem dL_law_2235 : decode code 2235 = .ok (.iaload, 1) := by decide +kernel
theorem dL_law_2236 : decode code 2236 = .ok (.aload_n 0, 1) := by decide +kernel
theorem dL_law_2237 : decode code 2237 = .ok (.iload_n 3, 1) := by decide +kernel
theorem dL_law_2238 : decode code 2238 = .ok (.iconst 2, 1) := by decide +kernel
theorem dL_law_2239 : decode code 2239 = .ok (.iadd, 1) := by decide +kernel
theorem dL_law_2240 : decode code 2240 = .ok (.iaload, 1) := by decide +kernel
theorem dL_law_2241 : decode code 2241 = .ok (.invokevirtual 257, 3) := by decide +kernel
theorem dL_law_2244 : decode code 2244 = .ok (.if_icmp .eq 28, 3) := by decide +kernel
theorem dL_law_2249 : decode code 2249 = .ok (.aload_n 1, 1) := by decide +kernel
theorem dL_law_2250 : decode code 2250 = .ok (.aload_n 0, 1) := by decide +kernel
theorem dL_law_2251 : decode code 2251 = .ok (.iload_n 3, 1) := by decide +kernel
theorem dL_law_2252 : decode code 2252 = .ok (.iconst 1, 1) := by decide +kernel
theorem dL_law_2253 : decode code 2253 = .ok (.iadd, 1) := by decide +kernel
theorem dL_law_2254 : decode code 2254 = .ok (.iaload, 1) := by decide +kernel
theorem dL_law_2255 : decode code 2255 = .ok (.invokevirtual 258, 3) := by decide +kernel
theorem dL_law_2258 : decode code 2258 = .ok (.aload_n 2, 1) := by decide +kernel
theorem dL_law_2259 : decode code 2259 = .ok (.aload_n 0, 1) := by decide +kernel
theorem dL_law_2260 : decode code 2260 = .ok (.iload_n 3, 1) := by decide +kernel
theorem dL_law_2261 : decode code 2261 = .ok (.iconst 1, 1) := by decide +kernel
theorem dL_law_2262 : decode code 2262 = .ok (.iadd, 1) := by decide +kernel
theorem dL_law_2263 : decode code 2263 = .ok (.iaload, 1) := by decide +kernel
theorem dL_law_2264 : decode code 2264 = .ok (.invokevirtual 261, 3) := by decide +kernel
theorem dL_law_2267 : decode code 2267 = .ok (.if_icmp .eq 5, 3) := by decide +kernel
theorem dL_law_27 : decode code 27 = .ok (.aload_n 0, 1) := by decide +kernel
theorem dL_law_28 : decode code 28 = .ok (.iload_n 3, 1) := by decide +kernel
theorem dL_law_29 : decode code 29 = .ok (.iaload, 1) := by decide +kernel
theorem dL_law_30 : decode code 30 = .ok (.bipush 63, 2) := by decide +kernel
theorem dL_law_32 : decode code 32 = .ok (.iand, 1) := by decide +kernel
theorem dL_law_33 : decode code 33 = .ok (.tableswitch 2239 0 58 #[251, 274, 327, 360, 435, 498, 531, 554, 587, 610, 643, 666, 700, 743, 766, 789, 822, 835, 888, 911, 944, 987, 1020, 1053, 1086, 1119, 1152, 1175, 1208, 1241, 1274, 1307, 1340, 1374, 1418, 1451, 1474, 1533, 1576, 1629, 1662, 1695, 1708, 1751, 1784, 1807, 1840, 1873, 1906, 1949, 1972, 2005, 2028, 2061, 2104, 2137, 2160, 2183, 2216], 251) := by decide +kernel
set_option maxRecDepth 100000 in
set_option maxHeartbeats 4000000 in
theorem lawc_45 {p : Program} {l : Launch} {e : Env} {s : State} {m : MethodId} {below : List Frame} {meth : Method} {c : Code} {b : Nat} {xs : Nat → Int32} (C0 : lw_At p s m meth c b 7 xs) {D : va_G} {cI cB cZ : ClassId} {qq vv : Nat} {bt : Nat → Int32} {g h : Nat → Nat} (hK : KK D cI cB cZ s) (hXS : XS D (g 50) qq vv bt (fun q : Nat => s.heap.size ≤ q) s s.heap) {H : Heap} {locs : List Loc} (hP : va_P D vwCl (wXM cI cB g h) H) (hD : va_D (fun q : Nat => s.heap.size ≤ q) (wXM cI cB g h)) (hS : va_S (fun q : Nat => s.heap.size ≤ q) s.heap H locs) {ls : Array Slot} (hl : lv_has ls 4 [(0, .ref b), (1, .ref (g 0)), (2, .ref (h 100)), (3, .int 0)]) : W p l e room_1 s m #[Value.ref b] below meth c H locs 107 14457 (lw_Z below #[Value.ref b] s) (F0 m 1840 ls []) := by
  obtain ⟨hx, hb, hr, hml, hown, hts, hX, hbl, hlocks, hgv⟩ := id C0
  have S : SF p m c code 4 s #[Value.ref b] RL := ⟨hx, hb, hml, hown, fun w h => hts w (wT_lw h)⟩
  obtain ⟨A, hAe⟩ : ∃ A : Nat → Prop, A = (fun q : Nat => s.heap.size ≤ q) := ⟨_, rfl⟩
  rw [← hAe] at hXS hD hS
  have hA : ∀ q : Nat, s.heap.size ≤ q → A q := fun q h => by rw [hAe]; exact h
  have hbA : ¬ A b := by rw [hAe]; exact Nat.not_le.mpr hbl
  refine lv_aload_n hx hb dL_law_1840 rfl (lv_at hl 1 rfl) ?_
  refine lv_aload_n hx hb dL_law_1841 rfl (lv_at hl 0 rfl) ?_
  refine lv_iload_n hx hb dL_law_1842 rfl (lv_at hl 3 rfl) ?_
  refine lv_iconst (v := 1) hx hb dL_law_1843 (by decide) ?_
  refine lv_iadd hx hb dL_law_1844 ?_
  refine lv_topi (fun y_1 ey_1 => ?_)
  obtain rfl : y_1 = 1 := ey_1.trans (by decide)
  refine va_sld hx hb hX hbl hbA hS (by unfold vp_in; decide) dL_law_1845 ?_
  refine lv_topi (fun y_2 ey_2 => ?_)
  obtain rfl : y_2 = (xs 1) := ey_2
  refine lv_aload_n hx hb dL_law_1846 rfl (lv_at hl 0 rfl) ?_
  refine lv_iload_n hx hb dL_law_1847 rfl (lv_at hl 3 rfl) ?_
  refine lv_iconst (v := 2) hx hb dL_law_1848 (by decide) ?_
  refine lv_iadd hx hb dL_law_1849 ?_
  refine lv_topi (fun y_3 ey_3 => ?_)
  obtain rfl : y_3 = 2 := ey_3.trans (by decide)
  refine va_sld hx hb hX hbl hbA hS (by unfold vp_in; decide) dL_law_1850 ?_
  refine lv_topi (fun y_4 ey_4 => ?_)
  obtain rfl : y_4 = (xs 2) := ey_4
  refine vp_callSi (runV_r (As := [.int (xs 1), .int (xs 2)]) (rest := []) S (q_X_whence l D cI cB cZ g (xs 1) (xs 2)) kV_RL_206 hK hP [0, 25] rfl 0 rfl rfl rfl ⟨Nat.le_of_ble_eq_true rfl, Nat.le_of_ble_eq_true rfl⟩ ⟨Nat.le_of_ble_eq_true rfl, Nat.le_of_ble_eq_true rfl⟩ rfl hl.1 rfl (Nat.le_of_ble_eq_true rfl) dL_law_1851) (fun r_5 h_6 => ?_)
  refine lv_aload_n hx hb dL_law_1854 rfl (lv_at hl 2 rfl) ?_
  refine lv_aload_n hx hb dL_law_1855 rfl (lv_at hl 0 rfl) ?_
  refine lv_iload_n hx hb dL_law_1856 rfl (lv_at hl 3 rfl) ?_
  refine lv_iconst (v := 1) hx hb dL_law_1857 (by decide) ?_
  refine lv_iadd hx hb dL_law_1858 ?_
  refine lv_topi (fun y_7 ey_7 => ?_)
  obtain rfl : y_7 = 1 := ey_7.trans (by decide)
  refine va_sld hx hb hX hbl hbA hS (by unfold vp_in; decide) dL_law_1859 ?_
  refine lv_topi (fun y_8 ey_8 => ?_)
  obtain rfl : y_8 = (xs 1) := ey_8
  refine lv_aload_n hx hb dL_law_1860 rfl (lv_at hl 0 rfl) ?_
  refine lv_iload_n hx hb dL_law_1861 rfl (lv_at hl 3 rfl) ?_
  refine lv_iconst (v := 2) hx hb dL_law_1862 (by decide) ?_
  refine lv_iadd hx hb dL_law_1863 ?_
  refine lv_topi (fun y_9 ey_9 => ?_)
  obtain rfl : y_9 = 2 := ey_9.trans (by decide)
  refine va_sld hx hb hX hbl hbA hS (by unfold vp_in; decide) dL_law_1864 ?_
  refine lv_topi (fun y_10 ey_10 => ?_)
  obtain rfl : y_10 = (xs 2) := ey_10
  refine vp_callSi (runV_r (As := [.int (xs 1), .int (xs 2)]) (rest := [.int r_5]) S (q_M_whence l D cI cB cZ h (xs 1) (xs 2)) kV_RL_209 hK hP [29] rfl 29 rfl rfl rfl ⟨Nat.le_of_ble_eq_true rfl, Nat.le_of_ble_eq_true rfl⟩ ⟨Nat.le_of_ble_eq_true rfl, Nat.le_of_ble_eq_true rfl⟩ rfl hl.1 rfl (Nat.le_of_ble_eq_true rfl) dL_law_1865) (fun r_11 h_12 => ?_)
  refine lv_icmp_eq (tgt := 2272) hx hb dL_law_1868 (by decide) (fun _ => ?_) (fun q => absurd (Eq.trans h_6 (Eq.symm h_12)) q)
  exact law_tail C0 (by rw [← hAe]; exact hS) (Nat.le_of_ble_eq_true rfl) (Nat.le_of_ble_eq_true rfl) hl
set_option maxRecDepth 100000 in
set_option maxHeartbeats 4000000 in
theorem lawc_46 {p : Program} {l : Launch} {e : Env} {s : State} {m : MethodId} {below : List Frame} {meth : Method} {c : Code} {b : Nat} {xs : Nat → Int32} (C0 : lw_At p s m meth c b 7 xs) {D : va_G} {cI cB cZ : ClassId} {qq vv : Nat} {bt : Nat → Int32} {g h : Nat → Nat} (hK : KK D cI cB cZ s) (hXS : XS D (g 50) qq vv bt (fun q : Nat => s.heap.size ≤ q) s s.heap) {H : Heap} {locs : List Loc} (hP : va_P D vwCl (wXM cI cB g h) H) (hD : va_D (fun q : Nat => s.heap.size ≤ q) (wXM cI cB g h)) (hS : va_S (fun q : Nat => s.heap.size ≤ q) s.heap H locs) {ls : Array Slot} (hl : lv_has ls 4 [(0, .ref b), (1, .ref (g 0)), (2, .ref (h 100)), (3, .int 0)]) : W p l e room_1 s m #[Value.ref b] below meth c H locs 107 14457 (lw_Z below #[Value.ref b] s) (F0 m 1873 ls []) := by
  obtain ⟨hx, hb, hr, hml, hown, hts, hX, hbl, hlocks, hgv⟩ := id C0
  have S : SF p m c code 4 s #[Value.ref b] RL := ⟨hx, hb, hml, hown, fun w h => hts w (wT_lw h)⟩
  obtain ⟨A, hAe⟩ : ∃ A : Nat → Prop, A = (fun q : Nat => s.heap.size ≤ q) := ⟨_, rfl⟩
  rw [← hAe] at hXS hD hS
  have hA : ∀ q : Nat, s.heap.size ≤ q → A q := fun q h => by rw [hAe]; exact h
  have hbA : ¬ A b := by rw [hAe]; exact Nat.not_le.mpr hbl
  refine lv_aload_n hx hb dL_law_1873 rfl (lv_at hl 1 rfl) ?_
  refine lv_aload_n hx hb dL_law_1874 rfl (lv_at hl 0 rfl) ?_
  refine lv_iload_n hx hb dL_law_1875 rfl (lv_at hl 3 rfl) ?_
  refine lv_iconst (v := 1) hx hb dL_law_1876 (by decide) ?_
  refine lv_iadd hx hb dL_law_1877 ?_
  refine lv_topi (fun y_1 ey_1 => ?_)
  obtain rfl : y_1 = 1 := ey_1.trans (by decide)
  refine va_sld hx hb hX hbl hbA hS (by unfold vp_in; decide) dL_law_1878 ?_
  refine lv_topi (fun y_2 ey_2 => ?_)
  obtain rfl : y_2 = (xs 1) := ey_2
  refine lv_aload_n hx hb dL_law_1879 rfl (lv_at hl 0 rfl) ?_
  refine lv_iload_n hx hb dL_law_1880 rfl (lv_at hl 3 rfl) ?_
  refine lv_iconst (v := 2) hx hb dL_law_1881 (by decide) ?_
  refine lv_iadd hx hb dL_law_1882 ?_
  refine lv_topi (fun y_3 ey_3 => ?_)
  obtain rfl : y_3 = 2 := ey_3.trans (by decide)
  refine va_sld hx hb hX hbl hbA hS (by unfold vp_in; decide) dL_law_1883 ?_
  refine lv_topi (fun y_4 ey_4 => ?_)
  obtain rfl : y_4 = (xs 2) := ey_4
  refine vp_callSi (runV_r (As := [.int (xs 1), .int (xs 2)]) (rest := []) S (q_X_audit l D cI cB cZ g (xs 1) (xs 2)) kV_RL_210 hK hP [0, 26] rfl 0 rfl rfl rfl ⟨Nat.le_of_ble_eq_true rfl, Nat.le_of_ble_eq_true rfl⟩ ⟨Nat.le_of_ble_eq_true rfl, Nat.le_of_ble_eq_true rfl⟩ rfl hl.1 rfl (Nat.le_of_ble_eq_true rfl) dL_law_1884) (fun r_5 h_6 => ?_)
  refine lv_aload_n hx hb dL_law_1887 rfl (lv_at hl 2 rfl) ?_
  refine lv_aload_n hx hb dL_law_1888 rfl (lv_at hl 0 rfl) ?_
  refine lv_iload_n hx hb dL_law_1889 rfl (lv_at hl 3 rfl) ?_
  refine lv_iconst (v := 1) hx hb dL_law_1890 (by decide) ?_
  refine lv_iadd hx hb dL_law_1891 ?_
  refine lv_topi (fun y_7 ey_7 => ?_)
  obtain rfl : y_7 = 1 := ey_7.trans (by decide)
  refine va_sld hx hb hX hbl hbA hS (by unfold vp_in; decide) dL_law_1892 ?_
  refine lv_topi (fun y_8 ey_8 => ?_)
  obtain rfl : y_8 = (xs 1) := ey_8
  refine lv_aload_n hx hb dL_law_1893 rfl (lv_at hl 0 rfl) ?_
  refine lv_iload_n hx hb dL_law_1894 rfl (lv_at hl 3 rfl) ?_
  refine lv_iconst (v := 2) hx hb dL_law_1895 (by decide) ?_
  refine lv_iadd hx hb dL_law_1896 ?_
  refine lv_topi (fun y_9 ey_9 => ?_)
  obtain rfl : y_9 = 2 := ey_9.trans (by decide)
  refine va_sld hx hb hX hbl hbA hS (by unfold vp_in; decide) dL_law_1897 ?_
  refine lv_topi (fun y_10 ey_10 => ?_)
  obtain rfl : y_10 = (xs 2) := ey_10
  refine vp_callSi (runV_r (As := [.int (xs 1), .int (xs 2)]) (rest := [.int r_5]) S (q_M_audit l D cI cB cZ h (xs 1) (xs 2)) kV_RL_213 hK hP [29] rfl 29 rfl rfl rfl ⟨Nat.le_of_ble_eq_true rfl, Nat.le_of_ble_eq_true rfl⟩ ⟨Nat.le_of_ble_eq_true rfl, Nat.le_of_ble_eq_true rfl⟩ rfl hl.1 rfl (Nat.le_of_ble_eq_true rfl) dL_law_1898) (fun r_11 h_12 => ?_)
  refine lv_icmp_eq (tgt := 2272) hx hb dL_law_1901 (by decide) (fun _ => ?_) (fun q => absurd (Eq.trans h_6 (Eq.symm h_12)) q)
  exact law_tail C0 (by rw [← hAe]; exact hS) (Nat.le_of_ble_eq_true rfl) (Nat.le_of_ble_eq_true rfl) hl
set_option maxRecDepth 100000 in
set_option maxHeartbeats 4000000 in
theorem lawc_47 {p : Program} {l : Launch} {e : Env} {s : State} {m : MethodId} {below : List Frame} {meth : Method} {c : Code} {b : Nat} {xs : Nat → Int32} (C0 : lw_At p s m meth c b 7 xs) {D : va_G} {cI cB cZ : ClassId} {qq vv : Nat} {bt : Nat → Int32} {g h : Nat → Nat} (hK : KK D cI cB cZ s) (hXS : XS D (g 50) qq vv bt (fun q : Nat => s.heap.size ≤ q) s s.heap) {H : Heap} {locs : List Loc} (hP : va_P D vwCl (wXM cI cB g h) H) (hD : va_D (fun q : Nat => s.heap.size ≤ q) (wXM cI cB g h)) (hS : va_S (fun q : Nat => s.heap.size ≤ q) s.heap H locs) {ls : Array Slot} (hl : lv_has ls 4 [(0, .ref b), (1, .ref (g 0)), (2, .ref (h 100)), (3, .int 0)]) : W p l e room_1 s m #[Value.ref b] below meth c H locs 107 14457 (lw_Z below #[Value.ref b] s) (F0 m 1906 ls []) := by
  obtain ⟨hx, hb, hr, hml, hown, hts, hX, hbl, hlocks, hgv⟩ := id C0
  have S : SF p m c code 4 s #[Value.ref b] RL := ⟨hx, hb, hml, hown, fun w h => hts w (wT_lw h)⟩
  obtain ⟨A, hAe⟩ : ∃ A : Nat → Prop, A = (fun q : Nat => s.heap.size ≤ q) := ⟨_, rfl⟩
  rw [← hAe] at hXS hD hS
  have hA : ∀ q : Nat, s.heap.size ≤ q → A q := fun q h => by rw [hAe]; exact h
  have hbA : ¬ A b := by rw [hAe]; exact Nat.not_le.mpr hbl
  refine lv_aload_n hx hb dL_law_1906 rfl (lv_at hl 1 rfl) ?_
  refine lv_aload_n hx hb dL_law_1907 rfl (lv_at hl 0 rfl) ?_
  refine lv_iload_n hx hb dL_law_1908 rfl (lv_at hl 3 rfl) ?_
  refine lv_iconst (v := 1) hx hb dL_law_1909 (by decide) ?_
  refine lv_iadd hx hb dL_law_1910 ?_
  refine lv_topi (fun y_1 ey_1 => ?_)
  obtain rfl : y_1 = 1 := ey_1.trans (by decide)
  refine va_sld hx hb hX hbl hbA hS (by unfold vp_in; decide) dL_law_1911 ?_
  refine lv_topi (fun y_2 ey_2 => ?_)
  obtain rfl : y_2 = (xs 1) := ey_2
  refine lv_aload_n hx hb dL_law_1912 rfl (lv_at hl 0 rfl) ?_
  refine lv_iload_n hx hb dL_law_1913 rfl (lv_at hl 3 rfl) ?_
  refine lv_iconst (v := 2) hx hb dL_law_1914 (by decide) ?_
  refine lv_iadd hx hb dL_law_1915 ?_
  refine lv_topi (fun y_3 ey_3 => ?_)
  obtain rfl : y_3 = 2 := ey_3.trans (by decide)
  refine va_sld hx hb hX hbl hbA hS (by unfold vp_in; decide) dL_law_1916 ?_
  refine lv_topi (fun y_4 ey_4 => ?_)
  obtain rfl : y_4 = (xs 2) := ey_4
  have hFc := va_free (wc := [((g 0), .inr (12, oX g)), ((g 8), .inr (8, oT g)), ((g 24), .inl (cI, 10, .inl (fun _ => 0)))]) hD hS hA [0, 5, 10] rfl
  refine va_calli (runV_w (As := [.int (xs 1), .int (xs 2)]) (rest := []) S (q_X_use l D cI cB cZ g (xs 1) (xs 2) H.size) kV_RL_214 hK hP hD [0, 5, 10] rfl rfl (by decide) 0 rfl rfl rfl ⟨Nat.le_of_ble_eq_true rfl, Nat.le_of_ble_eq_true rfl⟩ ⟨Nat.le_of_ble_eq_true rfl, Nat.le_of_ble_eq_true rfl⟩ rfl hl.1 rfl (Nat.le_of_ble_eq_true rfl) dL_law_1917) hS (fun q _ h => hFc q h) hFc (fun r_5 u_6 t H1 locs ht hvm h_7 hB hz1 hk1 hS => ?_)
  have hP1 : va_P D vwCl [] H1 := fun k q h => by simp at h
  have hD1 : va_D (va_A [((g 0), .inr (12, oX g)), ((g 8), .inr (8, oT g)), ((g 24), .inl (cI, 10, .inl (fun _ => 0)))] H.size) [] := ⟨fun i j p q h => by simp at h, fun k q h => by simp at h⟩
  obtain ⟨hP, hD⟩ := va_join (wr := [((h 100), .inr (13, oM h)), ((h 76), .inl (cI, 10, .inl (fun _ => 0)))]) (w1 := []) hP hD [0, 5, 10] [29, 41] rfl rfl (by decide) (by decide) hk1 hFc hP1 hD1
  generalize H1 = H at hP hS ⊢
  have hP : va_P D vwCl [((h 100), .inr (13, oM h)), ((h 76), .inl (cI, 10, .inl (fun _ => 0)))] H := hP
  have hD : va_D A [((h 100), .inr (13, oM h)), ((h 76), .inl (cI, 10, .inl (fun _ => 0)))] := hD
  refine lv_aload_n hx hb dL_law_1920 rfl (lv_at hl 2 rfl) ?_
  refine lv_aload_n hx hb dL_law_1921 rfl (lv_at hl 0 rfl) ?_
  refine lv_iload_n hx hb dL_law_1922 rfl (lv_at hl 3 rfl) ?_
  refine lv_iconst (v := 1) hx hb dL_law_1923 (by decide) ?_
  refine lv_iadd hx hb dL_law_1924 ?_
  refine lv_topi (fun y_8 ey_8 => ?_)
  obtain rfl : y_8 = 1 := ey_8.trans (by decide)
  refine va_sld hx hb hX hbl hbA hS (by unfold vp_in; decide) dL_law_1925 ?_
  refine lv_topi (fun y_9 ey_9 => ?_)
  obtain rfl : y_9 = (xs 1) := ey_9
  refine lv_aload_n hx hb dL_law_1926 rfl (lv_at hl 0 rfl) ?_
  refine lv_iload_n hx hb dL_law_1927 rfl (lv_at hl 3 rfl) ?_
  refine lv_iconst (v := 2) hx hb dL_law_1928 (by decide) ?_
  refine lv_iadd hx hb dL_law_1929 ?_
  refine lv_topi (fun y_10 ey_10 => ?_)
  obtain rfl : y_10 = 2 := ey_10.trans (by decide)
  refine va_sld hx hb hX hbl hbA hS (by unfold vp_in; decide) dL_law_1930 ?_
  refine lv_topi (fun y_11 ey_11 => ?_)
  obtain rfl : y_11 = (xs 2) := ey_11
  have hFc := va_free (wc := [((h 100), .inr (13, oM h)), ((h 76), .inl (cI, 10, .inl (fun _ => 0)))]) hD hS hA [0, 1] rfl
  refine va_calli (runV_w (As := [.int (xs 1), .int (xs 2)]) (rest := [.int r_5]) S (q_M_use l D cI cB cZ h (xs 1) (xs 2) H.size) kV_RL_217 hK hP hD [0, 1] rfl rfl (by decide) 0 rfl rfl rfl ⟨Nat.le_of_ble_eq_true rfl, Nat.le_of_ble_eq_true rfl⟩ ⟨Nat.le_of_ble_eq_true rfl, Nat.le_of_ble_eq_true rfl⟩ rfl hl.1 rfl (Nat.le_of_ble_eq_true rfl) dL_law_1931) hS (fun q _ h => hFc q h) hFc (fun r_12 u_13 t H1 locs ht hvm h_14 hB hz1 hk1 hS => ?_)
  have hP1 : va_P D vwCl [] H1 := fun k q h => by simp at h
  have hD1 : va_D (va_A [((h 100), .inr (13, oM h)), ((h 76), .inl (cI, 10, .inl (fun _ => 0)))] H.size) [] := ⟨fun i j p q h => by simp at h, fun k q h => by simp at h⟩
  obtain ⟨hP, hD⟩ := va_join (wr := []) (w1 := []) hP hD [0, 1] [] rfl rfl (by decide) (by decide) hk1 hFc hP1 hD1
  generalize H1 = H at hP hS ⊢
  have hP : va_P D vwCl [] H := hP
  have hD : va_D A [] := hD
  refine lv_icmp_eq (tgt := 2272) hx hb dL_law_1934 (by decide) (fun _ => ?_) (fun q => absurd (Eq.trans h_7 (Eq.symm h_14)) q)
  exact law_tail C0 (by rw [← hAe]; exact hS) (Nat.le_of_ble_eq_true rfl) (Nat.le_of_ble_eq_true rfl) hl
set_option maxRecDepth 100000 in
set_option maxHeartbeats 4000000 in
theorem lawc_48 {p : Program} {l : Launch} {e : Env} {s : State} {m : MethodId} {below : List Frame} {meth : Method} {c : Code} {b : Nat} {xs : Nat → Int32} (C0 : lw_At p s m meth c b 7 xs) {D : va_G} {cI cB cZ : ClassId} {qq vv : Nat} {bt : Nat → Int32} {g h : Nat → Nat} (hK : KK D cI cB cZ s) (hXS : XS D (g 50) qq vv bt (fun q : Nat => s.heap.size ≤ q) s s.heap) {H : Heap} {locs : List Loc} (hP : va_P D vwCl (wXM cI cB g h) H) (hD : va_D (fun q : Nat => s.heap.size ≤ q) (wXM cI cB g h)) (hS : va_S (fun q : Nat => s.heap.size ≤ q) s.heap H locs) {ls : Array Slot} (hl : lv_has ls 4 [(0, .ref b), (1, .ref (g 0)), (2, .ref (h 100)), (3, .int 0)]) : W p l e room_1 s m #[Value.ref b] below meth c H locs 107 14457 (lw_Z below #[Value.ref b] s) (F0 m 1939 ls []) := by
  obtain ⟨hx, hb, hr, hml, hown, hts, hX, hbl, hlocks, hgv⟩ := id C0
  have S : SF p m c code 4 s #[Value.ref b] RL := ⟨hx, hb, hml, hown, fun w h => hts w (wT_lw h)⟩
  obtain ⟨A, hAe⟩ : ∃ A : Nat → Prop, A = (fun q : Nat => s.heap.size ≤ q) := ⟨_, rfl⟩
  rw [← hAe] at hXS hD hS
  have hA : ∀ q : Nat, s.heap.size ≤ q → A q := fun q h => by rw [hAe]; exact h
  have hbA : ¬ A b := by rw [hAe]; exact Nat.not_le.mpr hbl
  refine lv_aload_n hx hb dL_law_1939 rfl (lv_at hl 1 rfl) ?_
  refine lv_aload_n hx hb dL_law_1940 rfl (lv_at hl 0 rfl) ?_
  refine lv_iload_n hx hb dL_law_1941 rfl (lv_at hl 3 rfl) ?_
  refine lv_iconst (v := 1) hx hb dL_law_1942 (by decide) ?_
  refine lv_iadd hx hb dL_law_1943 ?_
  refine lv_topi (fun y_1 ey_1 => ?_)
  obtain rfl : y_1 = 1 := ey_1.trans (by decide)
  refine va_sld hx hb hX hbl hbA hS (by unfold vp_in; decide) dL_law_1944 ?_
  refine lv_topi (fun y_2 ey_2 => ?_)
  obtain rfl : y_2 = (xs 1) := ey_2
  refine lv_aload_n hx hb dL_law_1945 rfl (lv_at hl 0 rfl) ?_
  refine lv_iload_n hx hb dL_law_1946 rfl (lv_at hl 3 rfl) ?_
  refine lv_iconst (v := 2) hx hb dL_law_1947 (by decide) ?_
  refine lv_iadd hx hb dL_law_1948 ?_
  refine lv_topi (fun y_3 ey_3 => ?_)
  obtain rfl : y_3 = 2 := ey_3.trans (by decide)
  refine va_sld hx hb hX hbl hbA hS (by unfold vp_in; decide) dL_law_1949 ?_
  refine lv_topi (fun y_4 ey_4 => ?_)
  obtain rfl : y_4 = (xs 2) := ey_4
  refine lv_aload_n hx hb dL_law_1950 rfl (lv_at hl 0 rfl) ?_
  refine lv_iload_n hx hb dL_law_1951 rfl (lv_at hl 3 rfl) ?_
  refine lv_iconst (v := 3) hx hb dL_law_1952 (by decide) ?_
  refine lv_iadd hx hb dL_law_1953 ?_
  refine lv_topi (fun y_5 ey_5 => ?_)
  obtain rfl : y_5 = 3 := ey_5.trans (by decide)
  refine va_sld hx hb hX hbl hbA hS (by unfold vp_in; decide) dL_law_1954 ?_
  refine lv_topi (fun y_6 ey_6 => ?_)
  obtain rfl : y_6 = (xs 3) := ey_6
  have hFc := va_free (wc := [((g 0), .inr (12, oX g)), ((g 8), .inr (8, oT g)), ((g 26), .inl (cI, 232, .inl (fun _ => 0)))]) hD hS hA [0, 5, 12] rfl
  refine va_calli (runV_w (As := [.int (xs 1), .int (xs 2), .int (xs 3)]) (rest := []) S (q_X_rate l D cI cB cZ g (xs 1) (xs 2) (xs 3) H.size) kV_RL_218 hK hP hD [0, 5, 12] rfl rfl (by decide) 0 rfl rfl rfl ⟨Nat.le_of_ble_eq_true rfl, Nat.le_of_ble_eq_true rfl⟩ ⟨Nat.le_of_ble_eq_true rfl, Nat.le_of_ble_eq_true rfl⟩ rfl hl.1 rfl (Nat.le_of_ble_eq_true rfl) dL_law_1955) hS (fun q _ h => hFc q h) hFc (fun r_7 u_8 t H1 locs ht hvm h_9 hB hz1 hk1 hS => ?_)
  have hP1 : va_P D vwCl [] H1 := fun k q h => by simp at h
  have hD1 : va_D (va_A [((g 0), .inr (12, oX g)), ((g 8), .inr (8, oT g)), ((g 26), .inl (cI, 232, .inl (fun _ => 0)))] H.size) [] := ⟨fun i j p q h => by simp at h, fun k q h => by simp at h⟩
  obtain ⟨hP, hD⟩ := va_join (wr := [((h 100), .inr (13, oM h)), ((h 77), .inl (cI, 232, .inl (fun _ => 0)))]) (w1 := []) hP hD [0, 5, 12] [29, 42] rfl rfl (by decide) (by decide) hk1 hFc hP1 hD1
  generalize H1 = H at hP hS ⊢
  have hP : va_P D vwCl [((h 100), .inr (13, oM h)), ((h 77), .inl (cI, 232, .inl (fun _ => 0)))] H := hP
  have hD : va_D A [((h 100), .inr (13, oM h)), ((h 77), .inl (cI, 232, .inl (fun _ => 0)))] := hD
  refine lv_aload_n hx hb dL_law_1958 rfl (lv_at hl 2 rfl) ?_
  refine lv_aload_n hx hb dL_law_1959 rfl (lv_at hl 0 rfl) ?_
  refine lv_iload_n hx hb dL_law_1960 rfl (lv_at hl 3 rfl) ?_
  refine lv_iconst (v := 1) hx hb dL_law_1961 (by decide) ?_
  refine lv_iadd hx hb dL_law_1962 ?_
  refine lv_topi (fun y_10 ey_10 => ?_)
  obtain rfl : y_10 = 1 := ey_10.trans (by decide)
  refine va_sld hx hb hX hbl hbA hS (by unfold vp_in; decide) dL_law_1963 ?_
  refine lv_topi (fun y_11 ey_11 => ?_)
  obtain rfl : y_11 = (xs 1) := ey_11
  refine lv_aload_n hx hb dL_law_1964 rfl (lv_at hl 0 rfl) ?_
  refine lv_iload_n hx hb dL_law_1965 rfl (lv_at hl 3 rfl) ?_
  refine lv_iconst (v := 2) hx hb dL_law_1966 (by decide) ?_
  refine lv_iadd hx hb dL_law_1967 ?_
  refine lv_topi (fun y_12 ey_12 => ?_)
  obtain rfl : y_12 = 2 := ey_12.trans (by decide)
  refine va_sld hx hb hX hbl hbA hS (by unfold vp_in; decide) dL_law_1968 ?_
  refine lv_topi (fun y_13 ey_13 => ?_)
  obtain rfl : y_13 = (xs 2) := ey_13
  refine lv_aload_n hx hb dL_law_1969 rfl (lv_at hl 0 rfl) ?_
  refine lv_iload_n hx hb dL_law_1970 rfl (lv_at hl 3 rfl) ?_
  refine lv_iconst (v := 3) hx hb dL_law_1971 (by decide) ?_
  refine lv_iadd hx hb dL_law_1972 ?_
  refine lv_topi (fun y_14 ey_14 => ?_)
  obtain rfl : y_14 = 3 := ey_14.trans (by decide)
  refine va_sld hx hb hX hbl hbA hS (by unfold vp_in; decide) dL_law_1973 ?_
  refine lv_topi (fun y_15 ey_15 => ?_)
  obtain rfl : y_15 = (xs 3) := ey_15
  have hFc := va_free (wc := [((h 100), .inr (13, oM h)), ((h 77), .inl (cI, 232, .inl (fun _ => 0)))]) hD hS hA [0, 1] rfl
  refine va_calli (runV_w (As := [.int (xs 1), .int (xs 2), .int (xs 3)]) (rest := [.int r_7]) S (q_M_rate l D cI cB cZ h (xs 1) (xs 2) (xs 3) H.size) kV_RL_221 hK hP hD [0, 1] rfl rfl (by decide) 0 rfl rfl rfl ⟨Nat.le_of_ble_eq_true rfl, Nat.le_of_ble_eq_true rfl⟩ ⟨Nat.le_of_ble_eq_true rfl, Nat.le_of_ble_eq_true rfl⟩ rfl hl.1 rfl (Nat.le_of_ble_eq_true rfl) dL_law_1974) hS (fun q _ h => hFc q h) hFc (fun r_16 u_17 t H1 locs ht hvm h_18 hB hz1 hk1 hS => ?_)
  have hP1 : va_P D vwCl [] H1 := fun k q h => by simp at h
  have hD1 : va_D (va_A [((h 100), .inr (13, oM h)), ((h 77), .inl (cI, 232, .inl (fun _ => 0)))] H.size) [] := ⟨fun i j p q h => by simp at h, fun k q h => by simp at h⟩
  obtain ⟨hP, hD⟩ := va_join (wr := []) (w1 := []) hP hD [0, 1] [] rfl rfl (by decide) (by decide) hk1 hFc hP1 hD1
  generalize H1 = H at hP hS ⊢
  have hP : va_P D vwCl [] H := hP
  have hD : va_D A [] := hD
  refine lv_icmp_eq (tgt := 2272) hx hb dL_law_1977 (by decide) (fun _ => ?_) (fun q => absurd (Eq.trans h_9 (Eq.symm h_18)) q)
  exact law_tail C0 (by rw [← hAe]; exact hS) (Nat.le_of_ble_eq_true rfl) (Nat.le_of_ble_eq_true rfl) hl
set_option maxRecDepth 100000 in
set_option maxHeartbeats 4000000 in
theorem lawc_49 {p : Program} {l : Launch} {e : Env} {s : State} {m : MethodId} {below : List Frame} {meth : Method} {c : Code} {b : Nat} {xs : Nat → Int32} (C0 : lw_At p s m meth c b 7 xs) {D : va_G} {cI cB cZ : ClassId} {qq vv : Nat} {bt : Nat → Int32} {g h : Nat → Nat} (hK : KK D cI cB cZ s) (hXS : XS D (g 50) qq vv bt (fun q : Nat => s.heap.size ≤ q) s s.heap) {H : Heap} {locs : List Loc} (hP : va_P D vwCl (wXM cI cB g h) H) (hD : va_D (fun q : Nat => s.heap.size ≤ q) (wXM cI cB g h)) (hS : va_S (fun q : Nat => s.heap.size ≤ q) s.heap H locs) {ls : Array Slot} (hl : lv_has ls 4 [(0, .ref b), (1, .ref (g 0)), (2, .ref (h 100)), (3, .int 0)]) : W p l e room_1 s m #[Value.ref b] below meth c H locs 107 14457 (lw_Z below #[Value.ref b] s) (F0 m 1982 ls []) := by
  obtain ⟨hx, hb, hr, hml, hown, hts, hX, hbl, hlocks, hgv⟩ := id C0
  have S : SF p m c code 4 s #[Value.ref b] RL := ⟨hx, hb, hml, hown, fun w h => hts w (wT_lw h)⟩
  obtain ⟨A, hAe⟩ : ∃ A : Nat → Prop, A = (fun q : Nat => s.heap.size ≤ q) := ⟨_, rfl⟩
  rw [← hAe] at hXS hD hS
  have hA : ∀ q : Nat, s.heap.size ≤ q → A q := fun q h => by rw [hAe]; exact h
  have hbA : ¬ A b := by rw [hAe]; exact Nat.not_le.mpr hbl
  refine lv_aload_n hx hb dL_law_1982 rfl (lv_at hl 1 rfl) ?_
  refine lv_aload_n hx hb dL_law_1983 rfl (lv_at hl 0 rfl) ?_
  refine lv_iload_n hx hb dL_law_1984 rfl (lv_at hl 3 rfl) ?_
  refine lv_iconst (v := 1) hx hb dL_law_1985 (by decide) ?_
  refine lv_iadd hx hb dL_law_1986 ?_
  refine lv_topi (fun y_1 ey_1 => ?_)
  obtain rfl : y_1 = 1 := ey_1.trans (by decide)
  refine va_sld hx hb hX hbl hbA hS (by unfold vp_in; decide) dL_law_1987 ?_
  refine lv_topi (fun y_2 ey_2 => ?_)
  obtain rfl : y_2 = (xs 1) := ey_2
  refine vp_callSi (runV_r (As := [.int (xs 1)]) (rest := []) S (q_X_tax l D cI cB cZ g (xs 1)) kV_RL_222 hK hP [0, 26] rfl 0 rfl rfl rfl ⟨Nat.le_of_ble_eq_true rfl, Nat.le_of_ble_eq_true rfl⟩ ⟨Nat.le_of_ble_eq_true rfl, Nat.le_of_ble_eq_true rfl⟩ rfl hl.1 rfl (Nat.le_of_ble_eq_true rfl) dL_law_1988) (fun r_3 h_4 => ?_)
  refine lv_aload_n hx hb dL_law_1991 rfl (lv_at hl 2 rfl) ?_
  refine lv_aload_n hx hb dL_law_1992 rfl (lv_at hl 0 rfl) ?_
  refine lv_iload_n hx hb dL_law_1993 rfl (lv_at hl 3 rfl) ?_
  refine lv_iconst (v := 1) hx hb dL_law_1994 (by decide) ?_
  refine lv_iadd hx hb dL_law_1995 ?_
  refine lv_topi (fun y_5 ey_5 => ?_)
  obtain rfl : y_5 = 1 := ey_5.trans (by decide)
  refine va_sld hx hb hX hbl hbA hS (by unfold vp_in; decide) dL_law_1996 ?_
  refine lv_topi (fun y_6 ey_6 => ?_)
  obtain rfl : y_6 = (xs 1) := ey_6
  refine vp_callSi (runV_r (As := [.int (xs 1)]) (rest := [.int r_3]) S (q_M_tax l D cI cB cZ h (xs 1)) kV_RL_225 hK hP [29] rfl 29 rfl rfl rfl ⟨Nat.le_of_ble_eq_true rfl, Nat.le_of_ble_eq_true rfl⟩ ⟨Nat.le_of_ble_eq_true rfl, Nat.le_of_ble_eq_true rfl⟩ rfl hl.1 rfl (Nat.le_of_ble_eq_true rfl) dL_law_1997) (fun r_7 h_8 => ?_)
  refine lv_icmp_eq (tgt := 2272) hx hb dL_law_2000 (by decide) (fun _ => ?_) (fun q => absurd (Eq.trans h_4 (Eq.symm h_8)) q)
  exact law_tail C0 (by rw [← hAe]; exact hS) (Nat.le_of_ble_eq_true rfl) (Nat.le_of_ble_eq_true rfl) hl
set_option maxRecDepth 100000 in
set_option maxHeartbeats 4000000 in
theorem lawc_50 {p : Program} {l : Launch} {e : Env} {s : State} {m : MethodId} {below : List Frame} {meth : Method} {c : Code} {b : Nat} {xs : Nat → Int32} (C0 : lw_At p s m meth c b 7 xs) {D : va_G} {cI cB cZ : ClassId} {qq vv : Nat} {bt : Nat → Int32} {g h : Nat → Nat} (hK : KK D cI cB cZ s) (hXS : XS D (g 50) qq vv bt (fun q : Nat => s.heap.size ≤ q) s s.heap) {H : Heap} {locs : List Loc} (hP : va_P D vwCl (wXM cI cB g h) H) (hD : va_D (fun q : Nat => s.heap.size ≤ q) (wXM cI cB g h)) (hS : va_S (fun q : Nat => s.heap.size ≤ q) s.heap H locs) {ls : Array Slot} (hl : lv_has ls 4 [(0, .ref b), (1, .ref (g 0)), (2, .ref (h 100)), (3, .int 0)]) : W p l e room_1 s m #[Value.ref b] below meth c H locs 107 14457 (lw_Z below #[Value.ref b] s) (F0 m 2005 ls []) := by
  obtain ⟨hx, hb, hr, hml, hown, hts, hX, hbl, hlocks, hgv⟩ := id C0
  have S : SF p m c code 4 s #[Value.ref b] RL := ⟨hx, hb, hml, hown, fun w h => hts w (wT_lw h)⟩
  obtain ⟨A, hAe⟩ : ∃ A : Nat → Prop, A = (fun q : Nat => s.heap.size ≤ q) := ⟨_, rfl⟩
  rw [← hAe] at hXS hD hS
  have hA : ∀ q : Nat, s.heap.size ≤ q → A q := fun q h => by rw [hAe]; exact h
  have hbA : ¬ A b := by rw [hAe]; exact Nat.not_le.mpr hbl
  refine lv_aload_n hx hb dL_law_2005 rfl (lv_at hl 1 rfl) ?_
  refine lv_aload_n hx hb dL_law_2006 rfl (lv_at hl 0 rfl) ?_
  refine lv_iload_n hx hb dL_law_2007 rfl (lv_at hl 3 rfl) ?_
  refine lv_iconst (v := 1) hx hb dL_law_2008 (by decide) ?_
  refine lv_iadd hx hb dL_law_2009 ?_
  refine lv_topi (fun y_1 ey_1 => ?_)
  obtain rfl : y_1 = 1 := ey_1.trans (by decide)
  refine va_sld hx hb hX hbl hbA hS (by unfold vp_in; decide) dL_law_2010 ?_
  refine lv_topi (fun y_2 ey_2 => ?_)
  obtain rfl : y_2 = (xs 1) := ey_2
  refine lv_aload_n hx hb dL_law_2011 rfl (lv_at hl 0 rfl) ?_
  refine lv_iload_n hx hb dL_law_2012 rfl (lv_at hl 3 rfl) ?_
  refine lv_iconst (v := 2) hx hb dL_law_2013 (by decide) ?_
  refine lv_iadd hx hb dL_law_2014 ?_
  refine lv_topi (fun y_3 ey_3 => ?_)
  obtain rfl : y_3 = 2 := ey_3.trans (by decide)
  refine va_sld hx hb hX hbl hbA hS (by unfold vp_in; decide) dL_law_2015 ?_
  refine lv_topi (fun y_4 ey_4 => ?_)
  obtain rfl : y_4 = (xs 2) := ey_4
  have hFc := va_free (wc := [((g 0), .inr (12, oX g)), ((g 8), .inr (8, oT g)), ((g 25), .inl (cI, 10, .inl (fun _ => 0)))]) hD hS hA [0, 5, 11] rfl
  refine va_calli (runV_w (As := [.int (xs 1), .int (xs 2)]) (rest := []) S (q_X_most l D cI cB cZ g (xs 1) (xs 2) H.size) kV_RL_226 hK hP hD [0, 5, 11] rfl rfl (by decide) 0 rfl rfl rfl ⟨Nat.le_of_ble_eq_true rfl, Nat.le_of_ble_eq_true rfl⟩ ⟨Nat.le_of_ble_eq_true rfl, Nat.le_of_ble_eq_true rfl⟩ rfl hl.1 rfl (Nat.le_of_ble_eq_true rfl) dL_law_2016) hS (fun q _ h => hFc q h) hFc (fun r_5 u_6 t H1 locs ht hvm h_7 hB hz1 hk1 hS => ?_)
  have hP1 : va_P D vwCl [] H1 := fun k q h => by simp at h
  have hD1 : va_D (va_A [((g 0), .inr (12, oX g)), ((g 8), .inr (8, oT g)), ((g 25), .inl (cI, 10, .inl (fun _ => 0)))] H.size) [] := ⟨fun i j p q h => by simp at h, fun k q h => by simp at h⟩
  obtain ⟨hP, hD⟩ := va_join (wr := [((h 100), .inr (13, oM h)), ((h 78), .inl (cI, 10, .inl (fun _ => 0)))]) (w1 := []) hP hD [0, 5, 11] [29, 43] rfl rfl (by decide) (by decide) hk1 hFc hP1 hD1
  generalize H1 = H at hP hS ⊢
  have hP : va_P D vwCl [((h 100), .inr (13, oM h)), ((h 78), .inl (cI, 10, .inl (fun _ => 0)))] H := hP
  have hD : va_D A [((h 100), .inr (13, oM h)), ((h 78), .inl (cI, 10, .inl (fun _ => 0)))] := hD
  refine lv_aload_n hx hb dL_law_2019 rfl (lv_at hl 2 rfl) ?_
  refine lv_aload_n hx hb dL_law_2020 rfl (lv_at hl 0 rfl) ?_
  refine lv_iload_n hx hb dL_law_2021 rfl (lv_at hl 3 rfl) ?_
  refine lv_iconst (v := 1) hx hb dL_law_2022 (by decide) ?_
  refine lv_iadd hx hb dL_law_2023 ?_
  refine lv_topi (fun y_8 ey_8 => ?_)
  obtain rfl : y_8 = 1 := ey_8.trans (by decide)
  refine va_sld hx hb hX hbl hbA hS (by unfold vp_in; decide) dL_law_2024 ?_
  refine lv_topi (fun y_9 ey_9 => ?_)
  obtain rfl : y_9 = (xs 1) := ey_9
  refine lv_aload_n hx hb dL_law_2025 rfl (lv_at hl 0 rfl) ?_
  refine lv_iload_n hx hb dL_law_2026 rfl (lv_at hl 3 rfl) ?_
  refine lv_iconst (v := 2) hx hb dL_law_2027 (by decide) ?_
  refine lv_iadd hx hb dL_law_2028 ?_
  refine lv_topi (fun y_10 ey_10 => ?_)
  obtain rfl : y_10 = 2 := ey_10.trans (by decide)
  refine va_sld hx hb hX hbl hbA hS (by unfold vp_in; decide) dL_law_2029 ?_
  refine lv_topi (fun y_11 ey_11 => ?_)
  obtain rfl : y_11 = (xs 2) := ey_11
  have hFc := va_free (wc := [((h 100), .inr (13, oM h)), ((h 78), .inl (cI, 10, .inl (fun _ => 0)))]) hD hS hA [0, 1] rfl
  refine va_calli (runV_w (As := [.int (xs 1), .int (xs 2)]) (rest := [.int r_5]) S (q_M_most l D cI cB cZ h (xs 1) (xs 2) H.size) kV_RL_229 hK hP hD [0, 1] rfl rfl (by decide) 0 rfl rfl rfl ⟨Nat.le_of_ble_eq_true rfl, Nat.le_of_ble_eq_true rfl⟩ ⟨Nat.le_of_ble_eq_true rfl, Nat.le_of_ble_eq_true rfl⟩ rfl hl.1 rfl (Nat.le_of_ble_eq_true rfl) dL_law_2030) hS (fun q _ h => hFc q h) hFc (fun r_12 u_13 t H1 locs ht hvm h_14 hB hz1 hk1 hS => ?_)
  have hP1 : va_P D vwCl [] H1 := fun k q h => by simp at h
  have hD1 : va_D (va_A [((h 100), .inr (13, oM h)), ((h 78), .inl (cI, 10, .inl (fun _ => 0)))] H.size) [] := ⟨fun i j p q h => by simp at h, fun k q h => by simp at h⟩
  obtain ⟨hP, hD⟩ := va_join (wr := []) (w1 := []) hP hD [0, 1] [] rfl rfl (by decide) (by decide) hk1 hFc hP1 hD1
  generalize H1 = H at hP hS ⊢
  have hP : va_P D vwCl [] H := hP
  have hD : va_D A [] := hD
  refine lv_icmp_eq (tgt := 2272) hx hb dL_law_2033 (by decide) (fun _ => ?_) (fun q => absurd (Eq.trans h_7 (Eq.symm h_14)) q)
  exact law_tail C0 (by rw [← hAe]; exact hS) (Nat.le_of_ble_eq_true rfl) (Nat.le_of_ble_eq_true rfl) hl
set_option maxRecDepth 100000 in
set_option maxHeartbeats 4000000 in
theorem lawc_51 {p : Program} {l : Launch} {e : Env} {s : State} {m : MethodId} {below : List Frame} {meth : Method} {c : Code} {b : Nat} {xs : Nat → Int32} (C0 : lw_At p s m meth c b 7 xs) {D : va_G} {cI cB cZ : ClassId} {qq vv : Nat} {bt : Nat → Int32} {g h : Nat → Nat} (hK : KK D cI cB cZ s) (hXS : XS D (g 50) qq vv bt (fun q : Nat => s.heap.size ≤ q) s s.heap) {H : Heap} {locs : List Loc} (hP : va_P D vwCl (wXM cI cB g h) H) (hD : va_D (fun q : Nat => s.heap.size ≤ q) (wXM cI cB g h)) (hS : va_S (fun q : Nat => s.heap.size ≤ q) s.heap H locs) {ls : Array Slot} (hl : lv_has ls 4 [(0, .ref b), (1, .ref (g 0)), (2, .ref (h 100)), (3, .int 0)]) : W p l e room_1 s m #[Value.ref b] below meth c H locs 107 14457 (lw_Z below #[Value.ref b] s) (F0 m 2038 ls []) := by
  obtain ⟨hx, hb, hr, hml, hown, hts, hX, hbl, hlocks, hgv⟩ := id C0
  have S : SF p m c code 4 s #[Value.ref b] RL := ⟨hx, hb, hml, hown, fun w h => hts w (wT_lw h)⟩
  obtain ⟨A, hAe⟩ : ∃ A : Nat → Prop, A = (fun q : Nat => s.heap.size ≤ q) := ⟨_, rfl⟩
  rw [← hAe] at hXS hD hS
  have hA : ∀ q : Nat, s.heap.size ≤ q → A q := fun q h => by rw [hAe]; exact h
  have hbA : ¬ A b := by rw [hAe]; exact Nat.not_le.mpr hbl
  refine lv_aload_n hx hb dL_law_2038 rfl (lv_at hl 1 rfl) ?_
  refine lv_aload_n hx hb dL_law_2039 rfl (lv_at hl 0 rfl) ?_
  refine lv_iload_n hx hb dL_law_2040 rfl (lv_at hl 3 rfl) ?_
  refine lv_iconst (v := 1) hx hb dL_law_2041 (by decide) ?_
  refine lv_iadd hx hb dL_law_2042 ?_
  refine lv_topi (fun y_1 ey_1 => ?_)
  obtain rfl : y_1 = 1 := ey_1.trans (by decide)
  refine va_sld hx hb hX hbl hbA hS (by unfold vp_in; decide) dL_law_2043 ?_
  refine lv_topi (fun y_2 ey_2 => ?_)
  obtain rfl : y_2 = (xs 1) := ey_2
  refine vp_callSi (runV_r (As := [.int (xs 1)]) (rest := []) S (q_X_overdrawn l D cI cB cZ g (xs 1)) kV_RL_230 hK hP [0, 26, 5, 11] rfl 0 rfl rfl rfl ⟨Nat.le_of_ble_eq_true rfl, Nat.le_of_ble_eq_true rfl⟩ ⟨Nat.le_of_ble_eq_true rfl, Nat.le_of_ble_eq_true rfl⟩ rfl hl.1 rfl (Nat.le_of_ble_eq_true rfl) dL_law_2044) (fun r_3 h_4 => ?_)
  refine lv_aload_n hx hb dL_law_2047 rfl (lv_at hl 2 rfl) ?_
  refine lv_aload_n hx hb dL_law_2048 rfl (lv_at hl 0 rfl) ?_
  refine lv_iload_n hx hb dL_law_2049 rfl (lv_at hl 3 rfl) ?_
  refine lv_iconst (v := 1) hx hb dL_law_2050 (by decide) ?_
  refine lv_iadd hx hb dL_law_2051 ?_
  refine lv_topi (fun y_5 ey_5 => ?_)
  obtain rfl : y_5 = 1 := ey_5.trans (by decide)
  refine va_sld hx hb hX hbl hbA hS (by unfold vp_in; decide) dL_law_2052 ?_
  refine lv_topi (fun y_6 ey_6 => ?_)
  obtain rfl : y_6 = (xs 1) := ey_6
  refine vp_callSi (runV_r (As := [.int (xs 1)]) (rest := [.int r_3]) S (q_M_overdrawn l D cI cB cZ h (xs 1)) kV_RL_233 hK hP [29, 43] rfl 29 rfl rfl rfl ⟨Nat.le_of_ble_eq_true rfl, Nat.le_of_ble_eq_true rfl⟩ ⟨Nat.le_of_ble_eq_true rfl, Nat.le_of_ble_eq_true rfl⟩ rfl hl.1 rfl (Nat.le_of_ble_eq_true rfl) dL_law_2053) (fun r_7 h_8 => ?_)
  refine lv_icmp_eq (tgt := 2272) hx hb dL_law_2056 (by decide) (fun _ => ?_) (fun q => absurd (Eq.trans h_4 (Eq.symm h_8)) q)
  exact law_tail C0 (by rw [← hAe]; exact hS) (Nat.le_of_ble_eq_true rfl) (Nat.le_of_ble_eq_true rfl) hl
set_option maxRecDepth 100000 in
set_option maxHeartbeats 4000000 in
theorem lawc_52 {p : Program} {l : Launch} {e : Env} {s : State} {m : MethodId} {below : List Frame} {meth : Method} {c : Code} {b : Nat} {xs : Nat → Int32} (C0 : lw_At p s m meth c b 7 xs) {D : va_G} {cI cB cZ : ClassId} {qq vv : Nat} {bt : Nat → Int32} {g h : Nat → Nat} (hK : KK D cI cB cZ s) (hXS : XS D (g 50) qq vv bt (fun q : Nat => s.heap.size ≤ q) s s.heap) {H : Heap} {locs : List Loc} (hP : va_P D vwCl (wXM cI cB g h) H) (hD : va_D (fun q : Nat => s.heap.size ≤ q) (wXM cI cB g h)) (hS : va_S (fun q : Nat => s.heap.size ≤ q) s.heap H locs) {ls : Array Slot} (hl : lv_has ls 4 [(0, .ref b), (1, .ref (g 0)), (2, .ref (h 100)), (3, .int 0)]) : W p l e room_1 s m #[Value.ref b] below meth c H locs 107 14457 (lw_Z below #[Value.ref b] s) (F0 m 2061 ls []) := by
  obtain ⟨hx, hb, hr, hml, hown, hts, hX, hbl, hlocks, hgv⟩ := id C0
  have S : SF p m c code 4 s #[Value.ref b] RL := ⟨hx, hb, hml, hown, fun w h => hts w (wT_lw h)⟩
  obtain ⟨A, hAe⟩ : ∃ A : Nat → Prop, A = (fun q : Nat => s.heap.size ≤ q) := ⟨_, rfl⟩
  rw [← hAe] at hXS hD hS
  have hA : ∀ q : Nat, s.heap.size ≤ q → A q := fun q h => by rw [hAe]; exact h
  have hbA : ¬ A b := by rw [hAe]; exact Nat.not_le.mpr hbl
  refine lv_aload_n hx hb dL_law_2061 rfl (lv_at hl 1 rfl) ?_
  refine lv_aload_n hx hb dL_law_2062 rfl (lv_at hl 0 rfl) ?_
  refine lv_iload_n hx hb dL_law_2063 rfl (lv_at hl 3 rfl) ?_
  refine lv_iconst (v := 1) hx hb dL_law_2064 (by decide) ?_
  refine lv_iadd hx hb dL_law_2065 ?_
  refine lv_topi (fun y_1 ey_1 => ?_)
  obtain rfl : y_1 = 1 := ey_1.trans (by decide)
  refine va_sld hx hb hX hbl hbA hS (by unfold vp_in; decide) dL_law_2066 ?_
  refine lv_topi (fun y_2 ey_2 => ?_)
  obtain rfl : y_2 = (xs 1) := ey_2
  refine lv_aload_n hx hb dL_law_2067 rfl (lv_at hl 0 rfl) ?_
  refine lv_iload_n hx hb dL_law_2068 rfl (lv_at hl 3 rfl) ?_
  refine lv_iconst (v := 2) hx hb dL_law_2069 (by decide) ?_
  refine lv_iadd hx hb dL_law_2070 ?_
  refine lv_topi (fun y_3 ey_3 => ?_)
  obtain rfl : y_3 = 2 := ey_3.trans (by decide)
  refine va_sld hx hb hX hbl hbA hS (by unfold vp_in; decide) dL_law_2071 ?_
  refine lv_topi (fun y_4 ey_4 => ?_)
  obtain rfl : y_4 = (xs 2) := ey_4
  refine vp_callSi (runV_r (As := [.int (xs 1), .int (xs 2)]) (rest := []) S (q_X_sample l D cI cB cZ g (xs 1) (xs 2)) kV_RL_234 hK hP [0, 25] rfl 0 rfl rfl rfl ⟨Nat.le_of_ble_eq_true rfl, Nat.le_of_ble_eq_true rfl⟩ ⟨Nat.le_of_ble_eq_true rfl, Nat.le_of_ble_eq_true rfl⟩ rfl hl.1 rfl (Nat.le_of_ble_eq_true rfl) dL_law_2072) (fun r_5 h_6 => ?_)
  refine lv_aload_n hx hb dL_law_2075 rfl (lv_at hl 2 rfl) ?_
  refine lv_aload_n hx hb dL_law_2076 rfl (lv_at hl 0 rfl) ?_
  refine lv_iload_n hx hb dL_law_2077 rfl (lv_at hl 3 rfl) ?_
  refine lv_iconst (v := 1) hx hb dL_law_2078 (by decide) ?_
  refine lv_iadd hx hb dL_law_2079 ?_
  refine lv_topi (fun y_7 ey_7 => ?_)
  obtain rfl : y_7 = 1 := ey_7.trans (by decide)
  refine va_sld hx hb hX hbl hbA hS (by unfold vp_in; decide) dL_law_2080 ?_
  refine lv_topi (fun y_8 ey_8 => ?_)
  obtain rfl : y_8 = (xs 1) := ey_8
  refine lv_aload_n hx hb dL_law_2081 rfl (lv_at hl 0 rfl) ?_
  refine lv_iload_n hx hb dL_law_2082 rfl (lv_at hl 3 rfl) ?_
  refine lv_iconst (v := 2) hx hb dL_law_2083 (by decide) ?_
  refine lv_iadd hx hb dL_law_2084 ?_
  refine lv_topi (fun y_9 ey_9 => ?_)
  obtain rfl : y_9 = 2 := ey_9.trans (by decide)
  refine va_sld hx hb hX hbl hbA hS (by unfold vp_in; decide) dL_law_2085 ?_
  refine lv_topi (fun y_10 ey_10 => ?_)
  obtain rfl : y_10 = (xs 2) := ey_10
  refine vp_callSi (runV_r (As := [.int (xs 1), .int (xs 2)]) (rest := [.int r_5]) S (q_M_sample l D cI cB cZ h (xs 1) (xs 2)) kV_RL_237 hK hP [29] rfl 29 rfl rfl rfl ⟨Nat.le_of_ble_eq_true rfl, Nat.le_of_ble_eq_true rfl⟩ ⟨Nat.le_of_ble_eq_true rfl, Nat.le_of_ble_eq_true rfl⟩ rfl hl.1 rfl (Nat.le_of_ble_eq_true rfl) dL_law_2086) (fun r_11 h_12 => ?_)
  refine lv_icmp_eq (tgt := 2272) hx hb dL_law_2089 (by decide) (fun _ => ?_) (fun q => absurd (Eq.trans h_6 (Eq.symm h_12)) q)
  exact law_tail C0 (by rw [← hAe]; exact hS) (Nat.le_of_ble_eq_true rfl) (Nat.le_of_ble_eq_true rfl) hl
set_option maxRecDepth 100000 in
set_option maxHeartbeats 4000000 in
theorem lawc_53 {p : Program} {l : Launch} {e : Env} {s : State} {m : MethodId} {below : List Frame} {meth : Method} {c : Code} {b : Nat} {xs : Nat → Int32} (C0 : lw_At p s m meth c b 7 xs) {D : va_G} {cI cB cZ : ClassId} {qq vv : Nat} {bt : Nat → Int32} {g h : Nat → Nat} (hK : KK D cI cB cZ s) (hXS : XS D (g 50) qq vv bt (fun q : Nat => s.heap.size ≤ q) s s.heap) {H : Heap} {locs : List Loc} (hP : va_P D vwCl (wXM cI cB g h) H) (hD : va_D (fun q : Nat => s.heap.size ≤ q) (wXM cI cB g h)) (hS : va_S (fun q : Nat => s.heap.size ≤ q) s.heap H locs) {ls : Array Slot} (hl : lv_has ls 4 [(0, .ref b), (1, .ref (g 0)), (2, .ref (h 100)), (3, .int 0)]) : W p l e room_1 s m #[Value.ref b] below meth c H locs 107 14457 (lw_Z below #[Value.ref b] s) (F0 m 2094 ls []) := by
  obtain ⟨hx, hb, hr, hml, hown, hts, hX, hbl, hlocks, hgv⟩ := id C0
  have S : SF p m c code 4 s #[Value.ref b] RL := ⟨hx, hb, hml, hown, fun w h => hts w (wT_lw h)⟩
  obtain ⟨A, hAe⟩ : ∃ A : Nat → Prop, A = (fun q : Nat => s.heap.size ≤ q) := ⟨_, rfl⟩
  rw [← hAe] at hXS hD hS
  have hA : ∀ q : Nat, s.heap.size ≤ q → A q := fun q h => by rw [hAe]; exact h
  have hbA : ¬ A b := by rw [hAe]; exact Nat.not_le.mpr hbl
  refine lv_aload_n hx hb dL_law_2094 rfl (lv_at hl 1 rfl) ?_
  refine lv_aload_n hx hb dL_law_2095 rfl (lv_at hl 0 rfl) ?_
  refine lv_iload_n hx hb dL_law_2096 rfl (lv_at hl 3 rfl) ?_
  refine lv_iconst (v := 1) hx hb dL_law_2097 (by decide) ?_
  refine lv_iadd hx hb dL_law_2098 ?_
  refine lv_topi (fun y_1 ey_1 => ?_)
  obtain rfl : y_1 = 1 := ey_1.trans (by decide)
  refine va_sld hx hb hX hbl hbA hS (by unfold vp_in; decide) dL_law_2099 ?_
  refine lv_topi (fun y_2 ey_2 => ?_)
  obtain rfl : y_2 = (xs 1) := ey_2
  refine lv_aload_n hx hb dL_law_2100 rfl (lv_at hl 0 rfl) ?_
  refine lv_iload_n hx hb dL_law_2101 rfl (lv_at hl 3 rfl) ?_
  refine lv_iconst (v := 2) hx hb dL_law_2102 (by decide) ?_
  refine lv_iadd hx hb dL_law_2103 ?_
  refine lv_topi (fun y_3 ey_3 => ?_)
  obtain rfl : y_3 = 2 := ey_3.trans (by decide)
  refine va_sld hx hb hX hbl hbA hS (by unfold vp_in; decide) dL_law_2104 ?_
  refine lv_topi (fun y_4 ey_4 => ?_)
  obtain rfl : y_4 = (xs 2) := ey_4
  refine lv_aload_n hx hb dL_law_2105 rfl (lv_at hl 0 rfl) ?_
  refine lv_iload_n hx hb dL_law_2106 rfl (lv_at hl 3 rfl) ?_
  refine lv_iconst (v := 3) hx hb dL_law_2107 (by decide) ?_
  refine lv_iadd hx hb dL_law_2108 ?_
  refine lv_topi (fun y_5 ey_5 => ?_)
  obtain rfl : y_5 = 3 := ey_5.trans (by decide)
  refine va_sld hx hb hX hbl hbA hS (by unfold vp_in; decide) dL_law_2109 ?_
  refine lv_topi (fun y_6 ey_6 => ?_)
  obtain rfl : y_6 = (xs 3) := ey_6
  refine vp_callSi (runV_r (As := [.int (xs 1), .int (xs 2), .int (xs 3)]) (rest := []) S (q_X_claim l D cI cB cZ g (xs 1) (xs 2) (xs 3)) kV_RL_238 hK hP [0, 25] rfl 0 rfl rfl rfl ⟨Nat.le_of_ble_eq_true rfl, Nat.le_of_ble_eq_true rfl⟩ ⟨Nat.le_of_ble_eq_true rfl, Nat.le_of_ble_eq_true rfl⟩ rfl hl.1 rfl (Nat.le_of_ble_eq_true rfl) dL_law_2110) (fun r_7 h_8 => ?_)
  refine lv_aload_n hx hb dL_law_2113 rfl (lv_at hl 2 rfl) ?_
  refine lv_aload_n hx hb dL_law_2114 rfl (lv_at hl 0 rfl) ?_
  refine lv_iload_n hx hb dL_law_2115 rfl (lv_at hl 3 rfl) ?_
  refine lv_iconst (v := 1) hx hb dL_law_2116 (by decide) ?_
  refine lv_iadd hx hb dL_law_2117 ?_
  refine lv_topi (fun y_9 ey_9 => ?_)
  obtain rfl : y_9 = 1 := ey_9.trans (by decide)
  refine va_sld hx hb hX hbl hbA hS (by unfold vp_in; decide) dL_law_2118 ?_
  refine lv_topi (fun y_10 ey_10 => ?_)
  obtain rfl : y_10 = (xs 1) := ey_10
  refine lv_aload_n hx hb dL_law_2119 rfl (lv_at hl 0 rfl) ?_
  refine lv_iload_n hx hb dL_law_2120 rfl (lv_at hl 3 rfl) ?_
  refine lv_iconst (v := 2) hx hb dL_law_2121 (by decide) ?_
  refine lv_iadd hx hb dL_law_2122 ?_
  refine lv_topi (fun y_11 ey_11 => ?_)
  obtain rfl : y_11 = 2 := ey_11.trans (by decide)
  refine va_sld hx hb hX hbl hbA hS (by unfold vp_in; decide) dL_law_2123 ?_
  refine lv_topi (fun y_12 ey_12 => ?_)
  obtain rfl : y_12 = (xs 2) := ey_12
  refine lv_aload_n hx hb dL_law_2124 rfl (lv_at hl 0 rfl) ?_
  refine lv_iload_n hx hb dL_law_2125 rfl (lv_at hl 3 rfl) ?_
  refine lv_iconst (v := 3) hx hb dL_law_2126 (by decide) ?_
  refine lv_iadd hx hb dL_law_2127 ?_
  refine lv_topi (fun y_13 ey_13 => ?_)
  obtain rfl : y_13 = 3 := ey_13.trans (by decide)
  refine va_sld hx hb hX hbl hbA hS (by unfold vp_in; decide) dL_law_2128 ?_
  refine lv_topi (fun y_14 ey_14 => ?_)
  obtain rfl : y_14 = (xs 3) := ey_14
  refine vp_callSi (runV_r (As := [.int (xs 1), .int (xs 2), .int (xs 3)]) (rest := [.int r_7]) S (q_M_claim l D cI cB cZ h (xs 1) (xs 2) (xs 3)) kV_RL_241 hK hP [29] rfl 29 rfl rfl rfl ⟨Nat.le_of_ble_eq_true rfl, Nat.le_of_ble_eq_true rfl⟩ ⟨Nat.le_of_ble_eq_true rfl, Nat.le_of_ble_eq_true rfl⟩ rfl hl.1 rfl (Nat.le_of_ble_eq_true rfl) dL_law_2129) (fun r_15 h_16 => ?_)
  refine lv_icmp_eq (tgt := 2272) hx hb dL_law_2132 (by decide) (fun _ => ?_) (fun q => absurd (Eq.trans h_8 (Eq.symm h_16)) q)
  exact law_tail C0 (by rw [← hAe]; exact hS) (Nat.le_of_ble_eq_true rfl) (Nat.le_of_ble_eq_true rfl) hl
set_option maxRecDepth 100000 in
set_option maxHeartbeats 4000000 in
theorem lawc_54 {p : Program} {l : Launch} {e : Env} {s : State} {m : MethodId} {below : List Frame} {meth : Method} {c : Code} {b : Nat} {xs : Nat → Int32} (C0 : lw_At p s m meth c b 7 xs) {D : va_G} {cI cB cZ : ClassId} {qq vv : Nat} {bt : Nat → Int32} {g h : Nat → Nat} (hK : KK D cI cB cZ s) (hXS : XS D (g 50) qq vv bt (fun q : Nat => s.heap.size ≤ q) s s.heap) {H : Heap} {locs : List Loc} (hP : va_P D vwCl (wXM cI cB g h) H) (hD : va_D (fun q : Nat => s.heap.size ≤ q) (wXM cI cB g h)) (hS : va_S (fun q : Nat => s.heap.size ≤ q) s.heap H locs) {ls : Array Slot} (hl : lv_has ls 4 [(0, .ref b), (1, .ref (g 0)), (2, .ref (h 100)), (3, .int 0)]) : W p l e room_1 s m #[Value.ref b] below meth c H locs 107 14457 (lw_Z below #[Value.ref b] s) (F0 m 2137 ls []) := by
  obtain ⟨hx, hb, hr, hml, hown, hts, hX, hbl, hlocks, hgv⟩ := id C0
  have S : SF p m c code 4 s #[Value.ref b] RL := ⟨hx, hb, hml, hown, fun w h => hts w (wT_lw h)⟩
  obtain ⟨A, hAe⟩ : ∃ A : Nat → Prop, A = (fun q : Nat => s.heap.size ≤ q) := ⟨_, rfl⟩
  rw [← hAe] at hXS hD hS
  have hA : ∀ q : Nat, s.heap.size ≤ q → A q := fun q h => by rw [hAe]; exact h
  have hbA : ¬ A b := by rw [hAe]; exact Nat.not_le.mpr hbl
  refine lv_aload_n hx hb dL_law_2137 rfl (lv_at hl 1 rfl) ?_
  refine lv_aload_n hx hb dL_law_2138 rfl (lv_at hl 0 rfl) ?_
  refine lv_iload_n hx hb dL_law_2139 rfl (lv_at hl 3 rfl) ?_
  refine lv_iconst (v := 1) hx hb dL_law_2140 (by decide) ?_
  refine lv_iadd hx hb dL_law_2141 ?_
  refine lv_topi (fun y_1 ey_1 => ?_)
  obtain rfl : y_1 = 1 := ey_1.trans (by decide)
  refine va_sld hx hb hX hbl hbA hS (by unfold vp_in; decide) dL_law_2142 ?_
  refine lv_topi (fun y_2 ey_2 => ?_)
  obtain rfl : y_2 = (xs 1) := ey_2
  refine lv_aload_n hx hb dL_law_2143 rfl (lv_at hl 0 rfl) ?_
  refine lv_iload_n hx hb dL_law_2144 rfl (lv_at hl 3 rfl) ?_
  refine lv_iconst (v := 2) hx hb dL_law_2145 (by decide) ?_
  refine lv_iadd hx hb dL_law_2146 ?_
  refine lv_topi (fun y_3 ey_3 => ?_)
  obtain rfl : y_3 = 2 := ey_3.trans (by decide)
  refine va_sld hx hb hX hbl hbA hS (by unfold vp_in; decide) dL_law_2147 ?_
  refine lv_topi (fun y_4 ey_4 => ?_)
  obtain rfl : y_4 = (xs 2) := ey_4
  have hFc := va_free (wc := [((g 0), .inr (12, oX g)), ((g 8), .inr (8, oT g)), ((g 29), .inl (cI, 400, .inl (fun _ => 0)))]) hD hS hA [0, 5, 15] rfl
  refine va_calli (runV_w (As := [.int (xs 1), .int (xs 2)]) (rest := []) S (q_X_spill l D cI cB cZ g (xs 1) (xs 2) H.size) kV_RL_242 hK hP hD [0, 5, 15] rfl rfl (by decide) 0 rfl rfl rfl ⟨Nat.le_of_ble_eq_true rfl, Nat.le_of_ble_eq_true rfl⟩ ⟨Nat.le_of_ble_eq_true rfl, Nat.le_of_ble_eq_true rfl⟩ rfl hl.1 rfl (Nat.le_of_ble_eq_true rfl) dL_law_2148) hS (fun q _ h => hFc q h) hFc (fun r_5 u_6 t H1 locs ht hvm h_7 hB hz1 hk1 hS => ?_)
  have hP1 : va_P D vwCl [] H1 := fun k q h => by simp at h
  have hD1 : va_D (va_A [((g 0), .inr (12, oX g)), ((g 8), .inr (8, oT g)), ((g 29), .inl (cI, 400, .inl (fun _ => 0)))] H.size) [] := ⟨fun i j p q h => by simp at h, fun k q h => by simp at h⟩
  obtain ⟨hP, hD⟩ := va_join (wr := [((h 100), .inr (13, oM h)), ((h 81), .inl (cI, 40, .inl (fun _ => 0))), ((h 82), .inl (cI, 40, .inl (fun _ => 0)))]) (w1 := []) hP hD [0, 5, 15] [29, 44, 45] rfl rfl (by decide) (by decide) hk1 hFc hP1 hD1
  generalize H1 = H at hP hS ⊢
  have hP : va_P D vwCl [((h 100), .inr (13, oM h)), ((h 81), .inl (cI, 40, .inl (fun _ => 0))), ((h 82), .inl (cI, 40, .inl (fun _ => 0)))] H := hP
  have hD : va_D A [((h 100), .inr (13, oM h)), ((h 81), .inl (cI, 40, .inl (fun _ => 0))), ((h 82), .inl (cI, 40, .inl (fun _ => 0)))] := hD
  refine lv_aload_n hx hb dL_law_2151 rfl (lv_at hl 2 rfl) ?_
  refine lv_aload_n hx hb dL_law_2152 rfl (lv_at hl 0 rfl) ?_
  refine lv_iload_n hx hb dL_law_2153 rfl (lv_at hl 3 rfl) ?_
  refine lv_iconst (v := 1) hx hb dL_law_2154 (by decide) ?_
  refine lv_iadd hx hb dL_law_2155 ?_
  refine lv_topi (fun y_8 ey_8 => ?_)
  obtain rfl : y_8 = 1 := ey_8.trans (by decide)
  refine va_sld hx hb hX hbl hbA hS (by unfold vp_in; decide) dL_law_2156 ?_
  refine lv_topi (fun y_9 ey_9 => ?_)
  obtain rfl : y_9 = (xs 1) := ey_9
  refine lv_aload_n hx hb dL_law_2157 rfl (lv_at hl 0 rfl) ?_
  refine lv_iload_n hx hb dL_law_2158 rfl (lv_at hl 3 rfl) ?_
  refine lv_iconst (v := 2) hx hb dL_law_2159 (by decide) ?_
  refine lv_iadd hx hb dL_law_2160 ?_
  refine lv_topi (fun y_10 ey_10 => ?_)
  obtain rfl : y_10 = 2 := ey_10.trans (by decide)
  refine va_sld hx hb hX hbl hbA hS (by unfold vp_in; decide) dL_law_2161 ?_
  refine lv_topi (fun y_11 ey_11 => ?_)
  obtain rfl : y_11 = (xs 2) := ey_11
  have hFc := va_free (wc := [((h 100), .inr (13, oM h)), ((h 81), .inl (cI, 40, .inl (fun _ => 0))), ((h 82), .inl (cI, 40, .inl (fun _ => 0)))]) hD hS hA [0, 1, 2] rfl
  refine va_calli (runV_w (As := [.int (xs 1), .int (xs 2)]) (rest := [.int r_5]) S (q_M_spill l D cI cB cZ h (xs 1) (xs 2) H.size) kV_RL_245 hK hP hD [0, 1, 2] rfl rfl (by decide) 0 rfl rfl rfl ⟨Nat.le_of_ble_eq_true rfl, Nat.le_of_ble_eq_true rfl⟩ ⟨Nat.le_of_ble_eq_true rfl, Nat.le_of_ble_eq_true rfl⟩ rfl hl.1 rfl (Nat.le_of_ble_eq_true rfl) dL_law_2162) hS (fun q _ h => hFc q h) hFc (fun r_12 u_13 t H1 locs ht hvm h_14 hB hz1 hk1 hS => ?_)
  have hP1 : va_P D vwCl [] H1 := fun k q h => by simp at h
  have hD1 : va_D (va_A [((h 100), .inr (13, oM h)), ((h 81), .inl (cI, 40, .inl (fun _ => 0))), ((h 82), .inl (cI, 40, .inl (fun _ => 0)))] H.size) [] := ⟨fun i j p q h => by simp at h, fun k q h => by simp at h⟩
  obtain ⟨hP, hD⟩ := va_join (wr := []) (w1 := []) hP hD [0, 1, 2] [] rfl rfl (by decide) (by decide) hk1 hFc hP1 hD1
  generalize H1 = H at hP hS ⊢
  have hP : va_P D vwCl [] H := hP
  have hD : va_D A [] := hD
  refine lv_icmp_eq (tgt := 2272) hx hb dL_law_2165 (by decide) (fun _ => ?_) (fun q => absurd (Eq.trans h_7 (Eq.symm h_14)) q)
  exact law_tail C0 (by rw [← hAe]; exact hS) (Nat.le_of_ble_eq_true rfl) (Nat.le_of_ble_eq_true rfl) hl
set_option maxRecDepth 100000 in
set_option maxHeartbeats 4000000 in
theorem lawc_55 {p : Program} {l : Launch} {e : Env} {s : State} {m : MethodId} {below : List Frame} {meth : Method} {c : Code} {b : Nat} {xs : Nat → Int32} (C0 : lw_At p s m meth c b 7 xs) {D : va_G} {cI cB cZ : ClassId} {qq vv : Nat} {bt : Nat → Int32} {g h : Nat → Nat} (hK : KK D cI cB cZ s) (hXS : XS D (g 50) qq vv bt (fun q : Nat => s.heap.size ≤ q) s s.heap) {H : Heap} {locs : List Loc} (hP : va_P D vwCl (wXM cI cB g h) H) (hD : va_D (fun q : Nat => s.heap.size ≤ q) (wXM cI cB g h)) (hS : va_S (fun q : Nat => s.heap.size ≤ q) s.heap H locs) {ls : Array Slot} (hl : lv_has ls 4 [(0, .ref b), (1, .ref (g 0)), (2, .ref (h 100)), (3, .int 0)]) : W p l e room_1 s m #[Value.ref b] below meth c H locs 107 14457 (lw_Z below #[Value.ref b] s) (F0 m 2170 ls []) := by
  obtain ⟨hx, hb, hr, hml, hown, hts, hX, hbl, hlocks, hgv⟩ := id C0
  have S : SF p m c code 4 s #[Value.ref b] RL := ⟨hx, hb, hml, hown, fun w h => hts w (wT_lw h)⟩
  obtain ⟨A, hAe⟩ : ∃ A : Nat → Prop, A = (fun q : Nat => s.heap.size ≤ q) := ⟨_, rfl⟩
  rw [← hAe] at hXS hD hS
  have hA : ∀ q : Nat, s.heap.size ≤ q → A q := fun q h => by rw [hAe]; exact h
  have hbA : ¬ A b := by rw [hAe]; exact Nat.not_le.mpr hbl
  refine lv_aload_n hx hb dL_law_2170 rfl (lv_at hl 1 rfl) ?_
  refine lv_aload_n hx hb dL_law_2171 rfl (lv_at hl 0 rfl) ?_
  refine lv_iload_n hx hb dL_law_2172 rfl (lv_at hl 3 rfl) ?_
  refine lv_iconst (v := 1) hx hb dL_law_2173 (by decide) ?_
  refine lv_iadd hx hb dL_law_2174 ?_
  refine lv_topi (fun y_1 ey_1 => ?_)
  obtain rfl : y_1 = 1 := ey_1.trans (by decide)
  refine va_sld hx hb hX hbl hbA hS (by unfold vp_in; decide) dL_law_2175 ?_
  refine lv_topi (fun y_2 ey_2 => ?_)
  obtain rfl : y_2 = (xs 1) := ey_2
  refine vp_callSi (runV_r (As := [.int (xs 1)]) (rest := []) S (q_X_stock l D cI cB cZ g (xs 1)) kV_RL_246 hK hP [0, 5, 15] rfl 0 rfl rfl rfl ⟨Nat.le_of_ble_eq_true rfl, Nat.le_of_ble_eq_true rfl⟩ ⟨Nat.le_of_ble_eq_true rfl, Nat.le_of_ble_eq_true rfl⟩ rfl hl.1 rfl (Nat.le_of_ble_eq_true rfl) dL_law_2176) (fun r_3 h_4 => ?_)
  refine lv_aload_n hx hb dL_law_2179 rfl (lv_at hl 2 rfl) ?_
  refine lv_aload_n hx hb dL_law_2180 rfl (lv_at hl 0 rfl) ?_
  refine lv_iload_n hx hb dL_law_2181 rfl (lv_at hl 3 rfl) ?_
  refine lv_iconst (v := 1) hx hb dL_law_2182 (by decide) ?_
  refine lv_iadd hx hb dL_law_2183 ?_
  refine lv_topi (fun y_5 ey_5 => ?_)
  obtain rfl : y_5 = 1 := ey_5.trans (by decide)
  refine va_sld hx hb hX hbl hbA hS (by unfold vp_in; decide) dL_law_2184 ?_
  refine lv_topi (fun y_6 ey_6 => ?_)
  obtain rfl : y_6 = (xs 1) := ey_6
  refine vp_callSi (runV_r (As := [.int (xs 1)]) (rest := [.int r_3]) S (q_M_stock l D cI cB cZ h (xs 1)) kV_RL_249 hK hP [29] rfl 29 rfl rfl rfl ⟨Nat.le_of_ble_eq_true rfl, Nat.le_of_ble_eq_true rfl⟩ ⟨Nat.le_of_ble_eq_true rfl, Nat.le_of_ble_eq_true rfl⟩ rfl hl.1 rfl (Nat.le_of_ble_eq_true rfl) dL_law_2185) (fun r_7 h_8 => ?_)
  refine lv_icmp_eq (tgt := 2272) hx hb dL_law_2188 (by decide) (fun _ => ?_) (fun q => absurd (Eq.trans h_4 (Eq.symm h_8)) q)
  exact law_tail C0 (by rw [← hAe]; exact hS) (Nat.le_of_ble_eq_true rfl) (Nat.le_of_ble_eq_true rfl) hl
set_option maxRecDepth 100000 in
set_option maxHeartbeats 4000000 in
theorem lawc_56 {p : Program} {l : Launch} {e : Env} {s : State} {m : MethodId} {below : List Frame} {meth : Method} {c : Code} {b : Nat} {xs : Nat → Int32} (C0 : lw_At p s m meth c b 7 xs) {D : va_G} {cI cB cZ : ClassId} {qq vv : Nat} {bt : Nat → Int32} {g h : Nat → Nat} (hK : KK D cI cB cZ s) (hXS : XS D (g 50) qq vv bt (fun q : Nat => s.heap.size ≤ q) s s.heap) {H : Heap} {locs : List Loc} (hP : va_P D vwCl (wXM cI cB g h) H) (hD : va_D (fun q : Nat => s.heap.size ≤ q) (wXM cI cB g h)) (hS : va_S (fun q : Nat => s.heap.size ≤ q) s.heap H locs) {ls : Array Slot} (hl : lv_has ls 4 [(0, .ref b), (1, .ref (g 0)), (2, .ref (h 100)), (3, .int 0)]) : W p l e room_1 s m #[Value.ref b] below meth c H locs 107 14457 (lw_Z below #[Value.ref b] s) (F0 m 2193 ls []) := by
  obtain ⟨hx, hb, hr, hml, hown, hts, hX, hbl, hlocks, hgv⟩ := id C0
  have S : SF p m c code 4 s #[Value.ref b] RL := ⟨hx, hb, hml, hown, fun w h => hts w (wT_lw h)⟩
  obtain ⟨A, hAe⟩ : ∃ A : Nat → Prop, A = (fun q : Nat => s.heap.size ≤ q) := ⟨_, rfl⟩
  rw [← hAe] at hXS hD hS
  have hA : ∀ q : Nat, s.heap.size ≤ q → A q := fun q h => by rw [hAe]; exact h
  have hbA : ¬ A b := by rw [hAe]; exact Nat.not_le.mpr hbl
  refine lv_aload_n hx hb dL_law_2193 rfl (lv_at hl 1 rfl) ?_
  refine lv_aload_n hx hb dL_law_2194 rfl (lv_at hl 0 rfl) ?_
  refine lv_iload_n hx hb dL_law_2195 rfl (lv_at hl 3 rfl) ?_
  refine lv_iconst (v := 1) hx hb dL_law_2196 (by decide) ?_
  refine lv_iadd hx hb dL_law_2197 ?_
  refine lv_topi (fun y_1 ey_1 => ?_)
  obtain rfl : y_1 = 1 := ey_1.trans (by decide)
  refine va_sld hx hb hX hbl hbA hS (by unfold vp_in; decide) dL_law_2198 ?_
  refine lv_topi (fun y_2 ey_2 => ?_)
  obtain rfl : y_2 = (xs 1) := ey_2
  refine vp_callSi (runV_r (As := [.int (xs 1)]) (rest := []) S (q_X_below l D cI cB cZ g (xs 1)) kV_RL_250 hK hP [0, 5, 15] rfl 0 rfl rfl rfl ⟨Nat.le_of_ble_eq_true rfl, Nat.le_of_ble_eq_true rfl⟩ ⟨Nat.le_of_ble_eq_true rfl, Nat.le_of_ble_eq_true rfl⟩ rfl hl.1 rfl (Nat.le_of_ble_eq_true rfl) dL_law_2199) (fun r_3 h_4 => ?_)
  refine lv_aload_n hx hb dL_law_2202 rfl (lv_at hl 2 rfl) ?_
  refine lv_aload_n hx hb dL_law_2203 rfl (lv_at hl 0 rfl) ?_
  refine lv_iload_n hx hb dL_law_2204 rfl (lv_at hl 3 rfl) ?_
  refine lv_iconst (v := 1) hx hb dL_law_2205 (by decide) ?_
  refine lv_iadd hx hb dL_law_2206 ?_
  refine lv_topi (fun y_5 ey_5 => ?_)
  obtain rfl : y_5 = 1 := ey_5.trans (by decide)
  refine va_sld hx hb hX hbl hbA hS (by unfold vp_in; decide) dL_law_2207 ?_
  refine lv_topi (fun y_6 ey_6 => ?_)
  obtain rfl : y_6 = (xs 1) := ey_6
  refine vp_callSi (runV_r (As := [.int (xs 1)]) (rest := [.int r_3]) S (q_M_below l D cI cB cZ h (xs 1)) kV_RL_253 hK hP [29] rfl 29 rfl rfl rfl ⟨Nat.le_of_ble_eq_true rfl, Nat.le_of_ble_eq_true rfl⟩ ⟨Nat.le_of_ble_eq_true rfl, Nat.le_of_ble_eq_true rfl⟩ rfl hl.1 rfl (Nat.le_of_ble_eq_true rfl) dL_law_2208) (fun r_7 h_8 => ?_)
  refine lv_icmp_eq (tgt := 2272) hx hb dL_law_2211 (by decide) (fun _ => ?_) (fun q => absurd (Eq.trans h_4 (Eq.symm h_8)) q)
  exact law_tail C0 (by rw [← hAe]; exact hS) (Nat.le_of_ble_eq_true rfl) (Nat.le_of_ble_eq_true rfl) hl
set_option maxRecDepth 100000 in
set_option maxHeartbeats 4000000 in
theorem lawc_57 {p : Program} {l : Launch} {e : Env} {s : State} {m : MethodId} {below : List Frame} {meth : Method} {c : Code} {b : Nat} {xs : Nat → Int32} (C0 : lw_At p s m meth c b 7 xs) {D : va_G} {cI cB cZ : ClassId} {qq vv : Nat} {bt : Nat → Int32} {g h : Nat → Nat} (hK : KK D cI cB cZ s) (hXS : XS D (g 50) qq vv bt (fun q : Nat => s.heap.size ≤ q) s s.heap) {H : Heap} {locs : List Loc} (hP : va_P D vwCl (wXM cI cB g h) H) (hD : va_D (fun q : Nat => s.heap.size ≤ q) (wXM cI cB g h)) (hS : va_S (fun q : Nat => s.heap.size ≤ q) s.heap H locs) {ls : Array Slot} (hl : lv_has ls 4 [(0, .ref b), (1, .ref (g 0)), (2, .ref (h 100)), (3, .int 0)]) : W p l e room_1 s m #[Value.ref b] below meth c H locs 107 14457 (lw_Z below #[Value.ref b] s) (F0 m 2216 ls []) := by
  obtain ⟨hx, hb, hr, hml, hown, hts, hX, hbl, hlocks, hgv⟩ := id C0
  have S : SF p m c code 4 s #[Value.ref b] RL := ⟨hx, hb, hml, hown, fun w h => hts w (wT_lw h)⟩
  obtain ⟨A, hAe⟩ : ∃ A : Nat → Prop, A = (fun q : Nat => s.heap.size ≤ q) := ⟨_, rfl⟩
  rw [← hAe] at hXS hD hS
  have hA : ∀ q : Nat, s.heap.size ≤ q → A q := fun q h => by rw [hAe]; exact h
  have hbA : ¬ A b := by rw [hAe]; exact Nat.not_le.mpr hbl
  refine lv_aload_n hx hb dL_law_2216 rfl (lv_at hl 1 rfl) ?_
  refine lv_aload_n hx hb dL_law_2217 rfl (lv_at hl 0 rfl) ?_
  refine lv_iload_n hx hb dL_law_2218 rfl (lv_at hl 3 rfl) ?_
  refine lv_iconst (v := 1) hx hb dL_law_2219 (by decide) ?_
  refine lv_iadd hx hb dL_law_2220 ?_
  refine lv_topi (fun y_1 ey_1 => ?_)
  obtain rfl : y_1 = 1 := ey_1.trans (by decide)
  refine va_sld hx hb hX hbl hbA hS (by unfold vp_in; decide) dL_law_2221 ?_
  refine lv_topi (fun y_2 ey_2 => ?_)
  obtain rfl : y_2 = (xs 1) := ey_2
  refine lv_aload_n hx hb dL_law_2222 rfl (lv_at hl 0 rfl) ?_
  refine lv_iload_n hx hb dL_law_2223 rfl (lv_at hl 3 rfl) ?_
  refine lv_iconst (v := 2) hx hb dL_law_2224 (by decide) ?_
  refine lv_iadd hx hb dL_law_2225 ?_
  refine lv_topi (fun y_3 ey_3 => ?_)
  obtain rfl : y_3 = 2 := ey_3.trans (by decide)
  refine va_sld hx hb hX hbl hbA hS (by unfold vp_in; decide) dL_law_2226 ?_
  refine lv_topi (fun y_4 ey_4 => ?_)
  obtain rfl : y_4 = (xs 2) := ey_4
  refine vp_callSi (runV_r (As := [.int (xs 1), .int (xs 2)]) (rest := []) S (q_X_check l D cI cB cZ g (xs 1) (xs 2)) kV_RL_254 hK hP [0, 23, 2] rfl 0 rfl rfl rfl ⟨Nat.le_of_ble_eq_true rfl, Nat.le_of_ble_eq_true rfl⟩ ⟨Nat.le_of_ble_eq_true rfl, Nat.le_of_ble_eq_true rfl⟩ rfl hl.1 rfl (Nat.le_of_ble_eq_true rfl) dL_law_2227) (fun r_5 h_6 => ?_)
  refine lv_aload_n hx hb dL_law_2230 rfl (lv_at hl 2 rfl) ?_
  refine lv_aload_n hx hb dL_law_2231 rfl (lv_at hl 0 rfl) ?_
  refine lv_iload_n hx hb dL_law_2232 rfl (lv_at hl 3 rfl) ?_
  refine lv_iconst (v := 1) hx hb dL_law_2233 (by decide) ?_
  refine lv_iadd hx hb dL_law_2234 ?_
  refine lv_topi (fun y_7 ey_7 => ?_)
  obtain rfl : y_7 = 1 := ey_7.trans (by decide)
  refine va_sld hx hb hX hbl hbA hS (by unfold vp_in; decide) dL_law_2235 ?_
  refine lv_topi (fun y_8 ey_8 => ?_)
  obtain rfl : y_8 = (xs 1) := ey_8
  refine lv_aload_n hx hb dL_law_2236 rfl (lv_at hl 0 rfl) ?_
  refine lv_iload_n hx hb dL_law_2237 rfl (lv_at hl 3 rfl) ?_
  refine lv_iconst (v := 2) hx hb dL_law_2238 (by decide) ?_
  refine lv_iadd hx hb dL_law_2239 ?_
  refine lv_topi (fun y_9 ey_9 => ?_)
  obtain rfl : y_9 = 2 := ey_9.trans (by decide)
  refine va_sld hx hb hX hbl hbA hS (by unfold vp_in; decide) dL_law_2240 ?_
  refine lv_topi (fun y_10 ey_10 => ?_)
  obtain rfl : y_10 = (xs 2) := ey_10
  refine vp_callSi (runV_r (As := [.int (xs 1), .int (xs 2)]) (rest := [.int r_5]) S (q_M_check l D cI cB cZ h (xs 1) (xs 2)) kV_RL_257 hK hP [29] rfl 29 rfl rfl rfl ⟨Nat.le_of_ble_eq_true rfl, Nat.le_of_ble_eq_true rfl⟩ ⟨Nat.le_of_ble_eq_true rfl, Nat.le_of_ble_eq_true rfl⟩ rfl hl.1 rfl (Nat.le_of_ble_eq_true rfl) dL_law_2241) (fun r_11 h_12 => ?_)
  refine lv_icmp_eq (tgt := 2272) hx hb dL_law_2244 (by decide) (fun _ => ?_) (fun q => absurd (Eq.trans h_6 (Eq.symm h_12)) q)
  exact law_tail C0 (by rw [← hAe]; exact hS) (Nat.le_of_ble_eq_true rfl) (Nat.le_of_ble_eq_true rfl) hl
set_option maxRecDepth 100000 in
set_option maxHeartbeats 4000000 in
theorem lawc_58 {p : Program} {l : Launch} {e : Env} {s : State} {m : MethodId} {below : List Frame} {meth : Method} {c : Code} {b : Nat} {xs : Nat → Int32} (C0 : lw_At p s m meth c b 7 xs) {D : va_G} {cI cB cZ : ClassId} {qq vv : Nat} {bt : Nat → Int32} {g h : Nat → Nat} (hK : KK D cI cB cZ s) (hXS : XS D (g 50) qq vv bt (fun q : Nat => s.heap.size ≤ q) s s.heap) {H : Heap} {locs : List Loc} (hP : va_P D vwCl (wXM cI cB g h) H) (hD : va_D (fun q : Nat => s.heap.size ≤ q) (wXM cI cB g h)) (hS : va_S (fun q : Nat => s.heap.size ≤ q) s.heap H locs) {ls : Array Slot} (hl : lv_has ls 4 [(0, .ref b), (1, .ref (g 0)), (2, .ref (h 100)), (3, .int 0)]) : W p l e room_1 s m #[Value.ref b] below meth c H locs 107 14457 (lw_Z below #[Value.ref b] s) (F0 m 2249 ls []) := by
  obtain ⟨hx, hb, hr, hml, hown, hts, hX, hbl, hlocks, hgv⟩ := id C0
  have S : SF p m c code 4 s #[Value.ref b] RL := ⟨hx, hb, hml, hown, fun w h => hts w (wT_lw h)⟩
  obtain ⟨A, hAe⟩ : ∃ A : Nat → Prop, A = (fun q : Nat => s.heap.size ≤ q) := ⟨_, rfl⟩
  rw [← hAe] at hXS hD hS
  have hA : ∀ q : Nat, s.heap.size ≤ q → A q := fun q h => by rw [hAe]; exact h
  have hbA : ¬ A b := by rw [hAe]; exact Nat.not_le.mpr hbl
  refine lv_aload_n hx hb dL_law_2249 rfl (lv_at hl 1 rfl) ?_
  refine lv_aload_n hx hb dL_law_2250 rfl (lv_at hl 0 rfl) ?_
  refine lv_iload_n hx hb dL_law_2251 rfl (lv_at hl 3 rfl) ?_
  refine lv_iconst (v := 1) hx hb dL_law_2252 (by decide) ?_
  refine lv_iadd hx hb dL_law_2253 ?_
  refine lv_topi (fun y_1 ey_1 => ?_)
  obtain rfl : y_1 = 1 := ey_1.trans (by decide)
  refine va_sld hx hb hX hbl hbA hS (by unfold vp_in; decide) dL_law_2254 ?_
  refine lv_topi (fun y_2 ey_2 => ?_)
  obtain rfl : y_2 = (xs 1) := ey_2
  refine vp_callSi (runV_r (As := [.int (xs 1)]) (rest := []) S (q_X_count l D cI cB cZ g (xs 1)) kV_RL_258 hK hP [0, 23, 24, 25, 26, 27, 2, 1] rfl 0 rfl rfl rfl ⟨Nat.le_of_ble_eq_true rfl, Nat.le_of_ble_eq_true rfl⟩ ⟨Nat.le_of_ble_eq_true rfl, Nat.le_of_ble_eq_true rfl⟩ rfl hl.1 rfl (Nat.le_of_ble_eq_true rfl) dL_law_2255) (fun r_3 h_4 => ?_)
  refine lv_aload_n hx hb dL_law_2258 rfl (lv_at hl 2 rfl) ?_
  refine lv_aload_n hx hb dL_law_2259 rfl (lv_at hl 0 rfl) ?_
  refine lv_iload_n hx hb dL_law_2260 rfl (lv_at hl 3 rfl) ?_
  refine lv_iconst (v := 1) hx hb dL_law_2261 (by decide) ?_
  refine lv_iadd hx hb dL_law_2262 ?_
  refine lv_topi (fun y_5 ey_5 => ?_)
  obtain rfl : y_5 = 1 := ey_5.trans (by decide)
  refine va_sld hx hb hX hbl hbA hS (by unfold vp_in; decide) dL_law_2263 ?_
  refine lv_topi (fun y_6 ey_6 => ?_)
  obtain rfl : y_6 = (xs 1) := ey_6
  refine vp_callSi (runV_r (As := [.int (xs 1)]) (rest := [.int r_3]) S (q_M_count l D cI cB cZ h (xs 1)) kV_RL_261 hK hP [29, 35] rfl 29 rfl rfl rfl ⟨Nat.le_of_ble_eq_true rfl, Nat.le_of_ble_eq_true rfl⟩ ⟨Nat.le_of_ble_eq_true rfl, Nat.le_of_ble_eq_true rfl⟩ rfl hl.1 rfl (Nat.le_of_ble_eq_true rfl) dL_law_2264) (fun r_7 h_8 => ?_)
  refine lv_icmp_eq (tgt := 2272) hx hb dL_law_2267 (by decide) (fun _ => ?_) (fun q => absurd (Eq.trans h_4 (Eq.symm h_8)) q)
  exact law_tail C0 (by rw [← hAe]; exact hS) (Nat.le_of_ble_eq_true rfl) (Nat.le_of_ble_eq_true rfl) hl
set_option maxRecDepth 100000 in
set_option maxHeartbeats 4000000 in
/-- the law's one turn: which call the script asks for -/
theorem law_switch {p : Program} {l : Launch} {e : Env} {s : State} {m : MethodId} {below : List Frame} {meth : Method} {c : Code} {b : Nat} {xs : Nat → Int32} (C0 : lw_At p s m meth c b 7 xs) {D : va_G} {cI cB cZ : ClassId} {qq vv : Nat} {bt : Nat → Int32} {g h : Nat → Nat} (hK : KK D cI cB cZ s) (hXS : XS D (g 50) qq vv bt (fun q : Nat => s.heap.size ≤ q) s s.heap) {H : Heap} {locs : List Loc} (hP : va_P D vwCl (wXM cI cB g h) H) (hD : va_D (fun q : Nat => s.heap.size ≤ q) (wXM cI cB g h)) (hS : va_S (fun q : Nat => s.heap.size ≤ q) s.heap H locs) {ls : Array Slot} (hl : lv_has ls 4 [(0, .ref b), (1, .ref (g 0)), (2, .ref (h 100)), (3, .int 0)]) : W p l e room_1 s m #[Value.ref b] below meth c H locs 107 14457 (lw_Z below #[Value.ref b] s) (F0 m 27 ls []) := by
  obtain ⟨hx, hb, hr, hml, hown, hts, hX, hbl, hlocks, hgv⟩ := id C0
  have hbA : ¬ (fun q : Nat => s.heap.size ≤ q) b := Nat.not_le.mpr hbl
  refine lv_aload_n hx hb dL_law_27 rfl (lv_at hl 0 rfl) ?_
  refine lv_iload_n hx hb dL_law_28 rfl (lv_at hl 3 rfl) ?_
  refine va_sld hx hb hX hbl hbA hS (by unfold vp_in; decide) dL_law_29 ?_
  refine lv_bipush (v := 63) hx hb dL_law_30 (by decide) ?_
  refine lv_iand hx hb dL_law_32 ?_
  obtain ⟨j, hj, ej⟩ := pk_andE (xs (0 : Int32).toNatClampNeg) (m := 63) 6 (by decide)
  refine lv_topi (fun y ey => ?_)
  obtain rfl : y = nI j := ey.trans ej
  clear ey ej
  have hk : 0 ≤ j := Nat.zero_le j
  rcases Nat.eq_or_lt_of_le hk with rfl | hk
  · exact lv_tableIn (tgt := 284) (off := 251) hx hb dL_law_33 (by decide) (by decide) rfl (by decide) (lawc_0 C0 hK hXS hP hD hS hl)
  rcases Nat.eq_or_lt_of_le hk with rfl | hk
  · exact lv_tableIn (tgt := 307) (off := 274) hx hb dL_law_33 (by decide) (by decide) rfl (by decide) (lawc_1 C0 hK hXS hP hD hS hl)
  rcases Nat.eq_or_lt_of_le hk with rfl | hk
  · exact lv_tableIn (tgt := 360) (off := 327) hx hb dL_law_33 (by decide) (by decide) rfl (by decide) (lawc_2 C0 hK hXS hP hD hS hl)
  rcases Nat.eq_or_lt_of_le hk with rfl | hk
  · exact lv_tableIn (tgt := 393) (off := 360) hx hb dL_law_33 (by decide) (by decide) rfl (by decide) (lawc_3 C0 hK hXS hP hD hS hl)
  rcases Nat.eq_or_lt_of_le hk with rfl | hk
  · exact lv_tableIn (tgt := 468) (off := 435) hx hb dL_law_33 (by decide) (by decide) rfl (by decide) (lawc_4 C0 hK hXS hP hD hS hl)
  rcases Nat.eq_or_lt_of_le hk with rfl | hk
  · exact lv_tableIn (tgt := 531) (off := 498) hx hb dL_law_33 (by decide) (by decide) rfl (by decide) (lawc_5 C0 hK hXS hP hD hS hl)
  rcases Nat.eq_or_lt_of_le hk with rfl | hk
  · exact lv_tableIn (tgt := 564) (off := 531) hx hb dL_law_33 (by decide) (by decide) rfl (by decide) (lawc_6 C0 hK hXS hP hD hS hl)
  rcases Nat.eq_or_lt_of_le hk with rfl | hk
  · exact lv_tableIn (tgt := 587) (off := 554) hx hb dL_law_33 (by decide) (by decide) rfl (by decide) (lawc_7 C0 hK hXS hP hD hS hl)
  rcases Nat.eq_or_lt_of_le hk with rfl | hk
  · exact lv_tableIn (tgt := 620) (off := 587) hx hb dL_law_33 (by decide) (by decide) rfl (by decide) (lawc_8 C0 hK hXS hP hD hS hl)
  rcases Nat.eq_or_lt_of_le hk with rfl | hk
  · exact lv_tableIn (tgt := 643) (off := 610) hx hb dL_law_33 (by decide) (by decide) rfl (by decide) (lawc_9 C0 hK hXS hP hD hS hl)
  rcases Nat.eq_or_lt_of_le hk with rfl | hk
  · exact lv_tableIn (tgt := 676) (off := 643) hx hb dL_law_33 (by decide) (by decide) rfl (by decide) (lawc_10 C0 hK hXS hP hD hS hl)
  rcases Nat.eq_or_lt_of_le hk with rfl | hk
  · exact lv_tableIn (tgt := 699) (off := 666) hx hb dL_law_33 (by decide) (by decide) rfl (by decide) (lawc_11 C0 hK hXS hP hD hS hl)
  rcases Nat.eq_or_lt_of_le hk with rfl | hk
  · exact lv_tableIn (tgt := 733) (off := 700) hx hb dL_law_33 (by decide) (by decide) rfl (by decide) (lawc_12 C0 hK hXS hP hD hS hl)
  rcases Nat.eq_or_lt_of_le hk with rfl | hk
  · exact lv_tableIn (tgt := 776) (off := 743) hx hb dL_law_33 (by decide) (by decide) rfl (by decide) (lawc_13 C0 hK hXS hP hD hS hl)
  rcases Nat.eq_or_lt_of_le hk with rfl | hk
  · exact lv_tableIn (tgt := 799) (off := 766) hx hb dL_law_33 (by decide) (by decide) rfl (by decide) (lawc_14 C0 hK hXS hP hD hS hl)
  rcases Nat.eq_or_lt_of_le hk with rfl | hk
  · exact lv_tableIn (tgt := 822) (off := 789) hx hb dL_law_33 (by decide) (by decide) rfl (by decide) (lawc_15 C0 hK hXS hP hD hS hl)
  rcases Nat.eq_or_lt_of_le hk with rfl | hk
  · exact lv_tableIn (tgt := 855) (off := 822) hx hb dL_law_33 (by decide) (by decide) rfl (by decide) (lawc_16 C0 hK hXS hP hD hS hl)
  rcases Nat.eq_or_lt_of_le hk with rfl | hk
  · exact lv_tableIn (tgt := 868) (off := 835) hx hb dL_law_33 (by decide) (by decide) rfl (by decide) (lawc_17 C0 hK hXS hP hD hS hl)
  rcases Nat.eq_or_lt_of_le hk with rfl | hk
  · exact lv_tableIn (tgt := 921) (off := 888) hx hb dL_law_33 (by decide) (by decide) rfl (by decide) (lawc_18 C0 hK hXS hP hD hS hl)
  rcases Nat.eq_or_lt_of_le hk with rfl | hk
  · exact lv_tableIn (tgt := 944) (off := 911) hx hb dL_law_33 (by decide) (by decide) rfl (by decide) (lawc_19 C0 hK hXS hP hD hS hl)
  rcases Nat.eq_or_lt_of_le hk with rfl | hk
  · exact lv_tableIn (tgt := 977) (off := 944) hx hb dL_law_33 (by decide) (by decide) rfl (by decide) (lawc_20 C0 hK hXS hP hD hS hl)
  rcases Nat.eq_or_lt_of_le hk with rfl | hk
  · exact lv_tableIn (tgt := 1020) (off := 987) hx hb dL_law_33 (by decide) (by decide) rfl (by decide) (lawc_21 C0 hK hXS hP hD hS hl)
  rcases Nat.eq_or_lt_of_le hk with rfl | hk
  · exact lv_tableIn (tgt := 1053) (off := 1020) hx hb dL_law_33 (by decide) (by decide) rfl (by decide) (lawc_22 C0 hK hXS hP hD hS hl)
  rcases Nat.eq_or_lt_of_le hk with rfl | hk
  · exact lv_tableIn (tgt := 1086) (off := 1053) hx hb dL_law_33 (by decide) (by decide) rfl (by decide) (lawc_23 C0 hK hXS hP hD hS hl)
  rcases Nat.eq_or_lt_of_le hk with rfl | hk
  · exact lv_tableIn (tgt := 1119) (off := 1086) hx hb dL_law_33 (by decide) (by decide) rfl (by decide) (lawc_24 C0 hK hXS hP hD hS hl)
  rcases Nat.eq_or_lt_of_le hk with rfl | hk
  · exact lv_tableIn (tgt := 1152) (off := 1119) hx hb dL_law_33 (by decide) (by decide) rfl (by decide) (lawc_25 C0 hK hXS hP hD hS hl)
  rcases Nat.eq_or_lt_of_le hk with rfl | hk
  · exact lv_tableIn (tgt := 1185) (off := 1152) hx hb dL_law_33 (by decide) (by decide) rfl (by decide) (lawc_26 C0 hK hXS hP hD hS hl)
  rcases Nat.eq_or_lt_of_le hk with rfl | hk
  · exact lv_tableIn (tgt := 1208) (off := 1175) hx hb dL_law_33 (by decide) (by decide) rfl (by decide) (lawc_27 C0 hK hXS hP hD hS hl)
  rcases Nat.eq_or_lt_of_le hk with rfl | hk
  · exact lv_tableIn (tgt := 1241) (off := 1208) hx hb dL_law_33 (by decide) (by decide) rfl (by decide) (lawc_28 C0 hK hXS hP hD hS hl)
  rcases Nat.eq_or_lt_of_le hk with rfl | hk
  · exact lv_tableIn (tgt := 1274) (off := 1241) hx hb dL_law_33 (by decide) (by decide) rfl (by decide) (lawc_29 C0 hK hXS hP hD hS hl)
  rcases Nat.eq_or_lt_of_le hk with rfl | hk
  · exact lv_tableIn (tgt := 1307) (off := 1274) hx hb dL_law_33 (by decide) (by decide) rfl (by decide) (lawc_30 C0 hK hXS hP hD hS hl)
  rcases Nat.eq_or_lt_of_le hk with rfl | hk
  · exact lv_tableIn (tgt := 1340) (off := 1307) hx hb dL_law_33 (by decide) (by decide) rfl (by decide) (lawc_31 C0 hK hXS hP hD hS hl)
  rcases Nat.eq_or_lt_of_le hk with rfl | hk
  · exact lv_tableIn (tgt := 1373) (off := 1340) hx hb dL_law_33 (by decide) (by decide) rfl (by decide) (lawc_32 C0 hK hXS hP hD hS hl)
  rcases Nat.eq_or_lt_of_le hk with rfl | hk
  · exact lv_tableIn (tgt := 1407) (off := 1374) hx hb dL_law_33 (by decide) (by decide) rfl (by decide) (lawc_33 C0 hK hXS hP hD hS hl)
  rcases Nat.eq_or_lt_of_le hk with rfl | hk
  · exact lv_tableIn (tgt := 1451) (off := 1418) hx hb dL_law_33 (by decide) (by decide) rfl (by decide) (lawc_34 C0 hK hXS hP hD hS hl)
  rcases Nat.eq_or_lt_of_le hk with rfl | hk
  · exact lv_tableIn (tgt := 1484) (off := 1451) hx hb dL_law_33 (by decide) (by decide) rfl (by decide) (lawc_35 C0 hK hXS hP hD hS hl)
  rcases Nat.eq_or_lt_of_le hk with rfl | hk
  · exact lv_tableIn (tgt := 1507) (off := 1474) hx hb dL_law_33 (by decide) (by decide) rfl (by decide) (lawc_36 C0 hK hXS hP hD hS hl)
  rcases Nat.eq_or_lt_of_le hk with rfl | hk
  · exact lv_tableIn (tgt := 1566) (off := 1533) hx hb dL_law_33 (by decide) (by decide) rfl (by decide) (lawc_37 C0 hK hXS hP hD hS hl)
  rcases Nat.eq_or_lt_of_le hk with rfl | hk
  · exact lv_tableIn (tgt := 1609) (off := 1576) hx hb dL_law_33 (by decide) (by decide) rfl (by decide) (lawc_38 C0 hK hXS hP hD hS hl)
  rcases Nat.eq_or_lt_of_le hk with rfl | hk
  · exact lv_tableIn (tgt := 1662) (off := 1629) hx hb dL_law_33 (by decide) (by decide) rfl (by decide) (lawc_39 C0 hK hXS hP hD hS hl)
  rcases Nat.eq_or_lt_of_le hk with rfl | hk
  · exact lv_tableIn (tgt := 1695) (off := 1662) hx hb dL_law_33 (by decide) (by decide) rfl (by decide) (lawc_40 C0 hK hXS hP hD hS hl)
  rcases Nat.eq_or_lt_of_le hk with rfl | hk
  · exact lv_tableIn (tgt := 1728) (off := 1695) hx hb dL_law_33 (by decide) (by decide) rfl (by decide) (lawc_41 C0 hK hXS hP hD hS hl)
  rcases Nat.eq_or_lt_of_le hk with rfl | hk
  · exact lv_tableIn (tgt := 1741) (off := 1708) hx hb dL_law_33 (by decide) (by decide) rfl (by decide) (lawc_42 C0 hK hXS hP hD hS hl)
  rcases Nat.eq_or_lt_of_le hk with rfl | hk
  · exact lv_tableIn (tgt := 1784) (off := 1751) hx hb dL_law_33 (by decide) (by decide) rfl (by decide) (lawc_43 C0 hK hXS hP hD hS hl)
  rcases Nat.eq_or_lt_of_le hk with rfl | hk
  · exact lv_tableIn (tgt := 1817) (off := 1784) hx hb dL_law_33 (by decide) (by decide) rfl (by decide) (lawc_44 C0 hK hXS hP hD hS hl)
  rcases Nat.eq_or_lt_of_le hk with rfl | hk
  · exact lv_tableIn (tgt := 1840) (off := 1807) hx hb dL_law_33 (by decide) (by decide) rfl (by decide) (lawc_45 C0 hK hXS hP hD hS hl)
  rcases Nat.eq_or_lt_of_le hk with rfl | hk
  · exact lv_tableIn (tgt := 1873) (off := 1840) hx hb dL_law_33 (by decide) (by decide) rfl (by decide) (lawc_46 C0 hK hXS hP hD hS hl)
  rcases Nat.eq_or_lt_of_le hk with rfl | hk
  · exact lv_tableIn (tgt := 1906) (off := 1873) hx hb dL_law_33 (by decide) (by decide) rfl (by decide) (lawc_47 C0 hK hXS hP hD hS hl)
  rcases Nat.eq_or_lt_of_le hk with rfl | hk
  · exact lv_tableIn (tgt := 1939) (off := 1906) hx hb dL_law_33 (by decide) (by decide) rfl (by decide) (lawc_48 C0 hK hXS hP hD hS hl)
  rcases Nat.eq_or_lt_of_le hk with rfl | hk
  · exact lv_tableIn (tgt := 1982) (off := 1949) hx hb dL_law_33 (by decide) (by decide) rfl (by decide) (lawc_49 C0 hK hXS hP hD hS hl)
  rcases Nat.eq_or_lt_of_le hk with rfl | hk
  · exact lv_tableIn (tgt := 2005) (off := 1972) hx hb dL_law_33 (by decide) (by decide) rfl (by decide) (lawc_50 C0 hK hXS hP hD hS hl)
  rcases Nat.eq_or_lt_of_le hk with rfl | hk
  · exact lv_tableIn (tgt := 2038) (off := 2005) hx hb dL_law_33 (by decide) (by decide) rfl (by decide) (lawc_51 C0 hK hXS hP hD hS hl)
  rcases Nat.eq_or_lt_of_le hk with rfl | hk
  · exact lv_tableIn (tgt := 2061) (off := 2028) hx hb dL_law_33 (by decide) (by decide) rfl (by decide) (lawc_52 C0 hK hXS hP hD hS hl)
  rcases Nat.eq_or_lt_of_le hk with rfl | hk
  · exact lv_tableIn (tgt := 2094) (off := 2061) hx hb dL_law_33 (by decide) (by decide) rfl (by decide) (lawc_53 C0 hK hXS hP hD hS hl)
  rcases Nat.eq_or_lt_of_le hk with rfl | hk
  · exact lv_tableIn (tgt := 2137) (off := 2104) hx hb dL_law_33 (by decide) (by decide) rfl (by decide) (lawc_54 C0 hK hXS hP hD hS hl)
  rcases Nat.eq_or_lt_of_le hk with rfl | hk
  · exact lv_tableIn (tgt := 2170) (off := 2137) hx hb dL_law_33 (by decide) (by decide) rfl (by decide) (lawc_55 C0 hK hXS hP hD hS hl)
  rcases Nat.eq_or_lt_of_le hk with rfl | hk
  · exact lv_tableIn (tgt := 2193) (off := 2160) hx hb dL_law_33 (by decide) (by decide) rfl (by decide) (lawc_56 C0 hK hXS hP hD hS hl)
  rcases Nat.eq_or_lt_of_le hk with rfl | hk
  · exact lv_tableIn (tgt := 2216) (off := 2183) hx hb dL_law_33 (by decide) (by decide) rfl (by decide) (lawc_57 C0 hK hXS hP hD hS hl)
  rcases Nat.eq_or_lt_of_le hk with rfl | hk
  · exact lv_tableIn (tgt := 2249) (off := 2216) hx hb dL_law_33 (by decide) (by decide) rfl (by decide) (lawc_58 C0 hK hXS hP hD hS hl)
  exact lv_tableOut (tgt := 2272) hx hb dL_law_33 (Or.inr (by rw [nI_toInt (by omega)]; omega)) (by decide) (law_tail C0 hS (Nat.le_of_ble_eq_true rfl) (Nat.le_of_ble_eq_true rfl) hl)
