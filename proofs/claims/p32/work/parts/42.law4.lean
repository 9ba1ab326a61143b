set_option maxRecDepth 100000 in
theorem kV_RL_206 : CalV RL 206 yX11_whence cX11_whence 7 (some .int) 2 := ⟨⟨wk5_9 2 rfl rfl, wk5_9 3 rfl rfl, wk5_9 4 rfl rfl, wk1_0 1 rfl rfl, wk5_9 5 rfl rfl⟩, ⟨nmh_0.1, nmh_0.2, pd_17⟩⟩
set_option maxRecDepth 100000 in
theorem kV_RL_209 : CalV RL 209 yX12_whence cX12_whence 3 (some .int) 2 := ⟨⟨wk9_0 9 rfl rfl, wk9_0 10 rfl rfl, wk9_0 11 rfl rfl, wk1_1 1 rfl rfl, wk9_1 0 rfl rfl⟩, ⟨nmh_13.1, nmh_13.2, pd_17⟩⟩
set_option maxRecDepth 100000 in
theorem kV_RL_210 : CalV RL 210 yX11_audit cX11_audit 11 (some .int) 2 := ⟨⟨wk5_9 6 rfl rfl, wk5_9 7 rfl rfl, wk5_9 8 rfl rfl, wk1_0 1 rfl rfl, wk5_9 9 rfl rfl⟩, ⟨nmh_0.1, nmh_0.2, pd_17⟩⟩
set_option maxRecDepth 100000 in
theorem kV_RL_213 : CalV RL 213 yX12_audit cX12_audit 5 (some .int) 2 := ⟨⟨wk9_1 5 rfl rfl, wk9_1 6 rfl rfl, wk9_1 7 rfl rfl, wk1_1 1 rfl rfl, wk9_1 8 rfl rfl⟩, ⟨nmh_13.1, nmh_13.2, pd_17⟩⟩
set_option maxRecDepth 100000 in
theorem kV_RL_214 : CalV RL 214 yX11_use cX11_use 3 (some .boolean) 2 := ⟨⟨wk5_10 2 rfl rfl, wk5_10 3 rfl rfl, wk5_10 4 rfl rfl, wk1_0 1 rfl rfl, wk5_10 5 rfl rfl⟩, ⟨nmh_0.1, nmh_0.2, pd_21⟩⟩
set_option maxRecDepth 100000 in
theorem kV_RL_217 : CalV RL 217 yX12_use cX12_use 3 (some .boolean) 2 := ⟨⟨wk9_2 1 rfl rfl, wk9_2 2 rfl rfl, wk9_2 3 rfl rfl, wk1_1 1 rfl rfl, wk9_2 4 rfl rfl⟩, ⟨nmh_13.1, nmh_13.2, pd_21⟩⟩
set_option maxRecDepth 100000 in
theorem kV_RL_218 : CalV RL 218 yX11_rate cX11_rate 5 (some .boolean) 3 := ⟨⟨wk5_10 6 rfl rfl, wk5_10 7 rfl rfl, wk5_10 8 rfl rfl, wk1_0 1 rfl rfl, wk5_10 9 rfl rfl⟩, ⟨nmh_0.1, nmh_0.2, pd_26⟩⟩
set_option maxRecDepth 100000 in
theorem kV_RL_221 : CalV RL 221 yX12_rate cX12_rate 4 (some .boolean) 3 := ⟨⟨wk9_2 5 rfl rfl, wk9_2 6 rfl rfl, wk9_2 7 rfl rfl, wk1_1 1 rfl rfl, wk9_2 8 rfl rfl⟩, ⟨nmh_13.1, nmh_13.2, pd_26⟩⟩
set_option maxRecDepth 100000 in
theorem kV_RL_222 : CalV RL 222 yX11_tax cX11_tax 4 (some .int) 1 := ⟨⟨wk5_10 10 rfl rfl, wk5_10 11 rfl rfl, wk5_11 0 rfl rfl, wk1_0 1 rfl rfl, wk5_11 1 rfl rfl⟩, ⟨nmh_0.1, nmh_0.2, pd_8⟩⟩
set_option maxRecDepth 100000 in
theorem kV_RL_225 : CalV RL 225 yX12_tax cX12_tax 2 (some .int) 1 := ⟨⟨wk9_2 9 rfl rfl, wk9_2 10 rfl rfl, wk9_2 11 rfl rfl, wk1_1 1 rfl rfl, wk9_3 0 rfl rfl⟩, ⟨nmh_13.1, nmh_13.2, pd_8⟩⟩
set_option maxRecDepth 100000 in
theorem kV_RL_226 : CalV RL 226 yX11_most cX11_most 3 (some .boolean) 2 := ⟨⟨wk5_11 6 rfl rfl, wk5_11 7 rfl rfl, wk5_11 8 rfl rfl, wk1_0 1 rfl rfl, wk5_11 9 rfl rfl⟩, ⟨nmh_0.1, nmh_0.2, pd_21⟩⟩
set_option maxRecDepth 100000 in
theorem kV_RL_229 : CalV RL 229 yX12_most cX12_most 3 (some .boolean) 2 := ⟨⟨wk9_3 1 rfl rfl, wk9_3 2 rfl rfl, wk9_3 3 rfl rfl, wk1_1 1 rfl rfl, wk9_3 4 rfl rfl⟩, ⟨nmh_13.1, nmh_13.2, pd_21⟩⟩
set_option maxRecDepth 100000 in
theorem kV_RL_230 : CalV RL 230 yX11_overdrawn cX11_overdrawn 4 (some .int) 1 := ⟨⟨wk5_11 10 rfl rfl, wk5_11 11 rfl rfl, wk5_12 0 rfl rfl, wk1_0 1 rfl rfl, wk5_12 1 rfl rfl⟩, ⟨nmh_0.1, nmh_0.2, pd_8⟩⟩
set_option maxRecDepth 100000 in
theorem kV_RL_233 : CalV RL 233 yX12_overdrawn cX12_overdrawn 6 (some .int) 1 := ⟨⟨wk9_3 5 rfl rfl, wk9_3 6 rfl rfl, wk9_3 7 rfl rfl, wk1_1 1 rfl rfl, wk9_3 8 rfl rfl⟩, ⟨nmh_13.1, nmh_13.2, pd_8⟩⟩
set_option maxRecDepth 100000 in
theorem kV_RL_234 : CalV RL 234 yX11_sample cX11_sample 4 (some .int) 2 := ⟨⟨wk5_12 6 rfl rfl, wk5_12 7 rfl rfl, wk5_12 8 rfl rfl, wk1_0 1 rfl rfl, wk5_12 9 rfl rfl⟩, ⟨nmh_0.1, nmh_0.2, pd_17⟩⟩
set_option maxRecDepth 100000 in
theorem kV_RL_237 : CalV RL 237 yX12_sample cX12_sample 3 (some .int) 2 := ⟨⟨wk9_3 9 rfl rfl, wk9_3 10 rfl rfl, wk9_3 11 rfl rfl, wk1_1 1 rfl rfl, wk9_4 0 rfl rfl⟩, ⟨nmh_13.1, nmh_13.2, pd_17⟩⟩
set_option maxRecDepth 100000 in
theorem kV_RL_238 : CalV RL 238 yX11_claim cX11_claim 7 (some .int) 3 := ⟨⟨wk5_13 3 rfl rfl, wk5_13 4 rfl rfl, wk5_13 5 rfl rfl, wk1_0 1 rfl rfl, wk5_13 6 rfl rfl⟩, ⟨nmh_0.1, nmh_0.2, pd_22⟩⟩
set_option maxRecDepth 100000 in
theorem kV_RL_241 : CalV RL 241 yX12_claim cX12_claim 6 (some .int) 3 := ⟨⟨wk9_4 1 rfl rfl, wk9_4 2 rfl rfl, wk9_4 3 rfl rfl, wk1_1 1 rfl rfl, wk9_4 4 rfl rfl⟩, ⟨nmh_13.1, nmh_13.2, pd_22⟩⟩
set_option maxRecDepth 100000 in
theorem kV_RL_242 : CalV RL 242 yX11_spill cX11_spill 3 (some .int) 2 := ⟨⟨wk6_5 6 rfl rfl, wk6_5 7 rfl rfl, wk6_5 8 rfl rfl, wk1_0 1 rfl rfl, wk6_5 9 rfl rfl⟩, ⟨nmh_0.1, nmh_0.2, pd_17⟩⟩
set_option maxRecDepth 100000 in
theorem kV_RL_245 : CalV RL 245 yX12_spill cX12_spill 3 (some .int) 2 := ⟨⟨wk9_4 5 rfl rfl, wk9_4 6 rfl rfl, wk9_4 7 rfl rfl, wk1_1 1 rfl rfl, wk9_4 8 rfl rfl⟩, ⟨nmh_13.1, nmh_13.2, pd_17⟩⟩
set_option maxRecDepth 100000 in
theorem kV_RL_246 : CalV RL 246 yX11_stock cX11_stock 4 (some .int) 1 := ⟨⟨wk6_5 10 rfl rfl, wk6_5 11 rfl rfl, wk6_6 0 rfl rfl, wk1_0 1 rfl rfl, wk6_6 1 rfl rfl⟩, ⟨nmh_0.1, nmh_0.2, pd_8⟩⟩
set_option maxRecDepth 100000 in
theorem kV_RL_249 : CalV RL 249 yX12_stock cX12_stock 2 (some .int) 1 := ⟨⟨wk9_4 9 rfl rfl, wk9_4 10 rfl rfl, wk9_4 11 rfl rfl, wk1_1 1 rfl rfl, wk9_5 0 rfl rfl⟩, ⟨nmh_13.1, nmh_13.2, pd_8⟩⟩
set_option maxRecDepth 100000 in
theorem kV_RL_250 : CalV RL 250 yX11_below cX11_below 4 (some .int) 1 := ⟨⟨wk6_6 2 rfl rfl, wk6_6 3 rfl rfl, wk6_6 4 rfl rfl, wk1_0 1 rfl rfl, wk6_6 5 rfl rfl⟩, ⟨nmh_0.1, nmh_0.2, pd_8⟩⟩
set_option maxRecDepth 100000 in
theorem kV_RL_253 : CalV RL 253 yX12_below cX12_below 3 (some .int) 1 := ⟨⟨wk9_5 6 rfl rfl, wk9_5 7 rfl rfl, wk9_5 8 rfl rfl, wk1_1 1 rfl rfl, wk9_5 9 rfl rfl⟩, ⟨nmh_13.1, nmh_13.2, pd_8⟩⟩
set_option maxRecDepth 100000 in
theorem kV_RL_254 : CalV RL 254 yX11_check cX11_check 4 (some .int) 2 := ⟨⟨wk6_6 6 rfl rfl, wk6_6 7 rfl rfl, wk6_6 8 rfl rfl, wk1_0 1 rfl rfl, wk6_6 9 rfl rfl⟩, ⟨nmh_0.1, nmh_0.2, pd_17⟩⟩
set_option maxRecDepth 100000 in
theorem kV_RL_257 : CalV RL 257 yX12_check cX12_check 5 (some .int) 2 := ⟨⟨wk9_10 6 rfl rfl, wk9_10 7 rfl rfl, wk9_10 8 rfl rfl, wk1_1 1 rfl rfl, wk9_10 9 rfl rfl⟩, ⟨nmh_13.1, nmh_13.2, pd_17⟩⟩
set_option maxRecDepth 100000 in
theorem kV_RL_258 : CalV RL 258 yX11_count cX11_count 3 (some .int) 1 := ⟨⟨wk6_7 11 rfl rfl, wk6_8 0 rfl rfl, wk6_8 1 rfl rfl, wk1_0 1 rfl rfl, wk6_8 2 rfl rfl⟩, ⟨nmh_0.1, nmh_0.2, pd_8⟩⟩
set_option maxRecDepth 100000 in
theorem kV_RL_261 : CalV RL 261 yX12_count cX12_count 2 (some .int) 1 := ⟨⟨wk9_11 2 rfl rfl, wk9_11 3 rfl rfl, wk9_11 4 rfl rfl, wk1_1 1 rfl rfl, wk9_11 5 rfl rfl⟩, ⟨nmh_13.1, nmh_13.2, pd_8⟩⟩
theorem dL_law_1837 : decode code 1837 = .ok (.aload_n 1, 1) := oc_43 shL_law_1837
theorem dL_law_1838 : decode code 1838 = .ok (.aload_n 0, 1) := oc_42 shL_law_1838
theorem dL_law_1839 : decode code 1839 = .ok (.iload_n 3, 1) := oc_29 shL_law_1839
theorem dL_law_1840 : decode code 1840 = .ok (.iconst 1, 1) := oc_4 shL_law_1840
theorem dL_law_1841 : decode code 1841 = .ok (.iadd, 1) := oc_96 shL_law_1841
theorem dL_law_1842 : decode code 1842 = .ok (.iaload, 1) := oc_46 shL_law_1842
theorem dL_law_1843 : decode code 1843 = .ok (.aload_n 0, 1) := oc_42 shL_law_1843
theorem dL_law_1844 : decode code 1844 = .ok (.iload_n 3, 1) := oc_29 shL_law_1844
theorem dL_law_1845 : decode code 1845 = .ok (.iconst 2, 1) := oc_5 shL_law_1845
theorem dL_law_1846 : decode code 1846 = .ok (.iadd, 1) := oc_96 shL_law_1846
theorem dL_law_1847 : decode code 1847 = .ok (.iaload, 1) := oc_46 shL_law_1847
theorem dL_law_1848 : decode code 1848 = .ok (.invokevirtual 206, 3) := oc_182 shL_law_1848
theorem dL_law_1851 : decode code 1851 = .ok (.pop, 1) := oc_87 shL_law_1851
theorem dL_law_1852 : decode code 1852 = .ok (.aload_n 2, 1) := oc_44 shL_law_1852
theorem dL_law_1853 : decode code 1853 = .ok (.aload_n 0, 1) := oc_42 shL_law_1853
theorem dL_law_1854 : decode code 1854 = .ok (.iload_n 3, 1) := oc_29 shL_law_1854
theorem dL_law_1855 : decode code 1855 = .ok (.iconst 1, 1) := oc_4 shL_law_1855
theorem dL_law_1856 : decode code 1856 = .ok (.iadd, 1) := oc_96 shL_law_1856
theorem dL_law_1857 : decode code 1857 = .ok (.iaload, 1) := oc_46 shL_law_1857
theorem dL_law_1858 : decode code 1858 = .ok (.aload_n 0, 1) := oc_42 shL_law_1858
theorem dL_law_1859 : decode code 1859 = .ok (.iload_n 3, 1) := oc_29 shL_law_1859
theorem dL_law_1860 : decode code 1860 = .ok (.iconst 2, 1) := oc_5 shL_law_1860
theorem dL_law_1861 : decode code 1861 = .ok (.iadd, 1) := oc_96 shL_law_1861
theorem dL_law_1862 : decode code 1862 = .ok (.iaload, 1) := oc_46 shL_law_1862
theorem dL_law_1863 : decode code 1863 = .ok (.invokevirtual 209, 3) := oc_182 shL_law_1863
theorem dL_law_1866 : decode code 1866 = .ok (.pop, 1) := oc_87 shL_law_1866
theorem dL_law_1867 : decode code 1867 = .ok (.goto 402, 3) := oc_167 shL_law_1867 sgw_1_146
theorem dL_law_1870 : decode code 1870 = .ok (.aload_n 1, 1) := oc_43 shL_law_1870
theorem dL_law_1871 : decode code 1871 = .ok (.aload_n 0, 1) := oc_42 shL_law_1871
theorem dL_law_1872 : decode code 1872 = .ok (.iload_n 3, 1) := oc_29 shL_law_1872
theorem dL_law_1873 : decode code 1873 = .ok (.iconst 1, 1) := oc_4 shL_law_1873
theorem dL_law_1874 : decode code 1874 = .ok (.iadd, 1) := oc_96 shL_law_1874
theorem dL_law_1875 : decode code 1875 = .ok (.iaload, 1) := oc_46 shL_law_1875
theorem dL_law_1876 : decode code 1876 = .ok (.aload_n 0, 1) := oc_42 shL_law_1876
theorem dL_law_1877 : decode code 1877 = .ok (.iload_n 3, 1) := oc_29 shL_law_1877
theorem dL_law_1878 : decode code 1878 = .ok (.iconst 2, 1) := oc_5 shL_law_1878
theorem dL_law_1879 : decode code 1879 = .ok (.iadd, 1) := oc_96 shL_law_1879
theorem dL_law_1880 : decode code 1880 = .ok (.iaload, 1) := oc_46 shL_law_1880
theorem dL_law_1881 : decode code 1881 = .ok (.invokevirtual 210, 3) := oc_182 shL_law_1881
theorem dL_law_1884 : decode code 1884 = .ok (.pop, 1) := oc_87 shL_law_1884
theorem dL_law_1885 : decode code 1885 = .ok (.aload_n 2, 1) := oc_44 shL_law_1885
theorem dL_law_1886 : decode code 1886 = .ok (.aload_n 0, 1) := oc_42 shL_law_1886
theorem dL_law_1887 : decode code 1887 = .ok (.iload_n 3, 1) := oc_29 shL_law_1887
theorem dL_law_1888 : decode code 1888 = .ok (.iconst 1, 1) := oc_4 shL_law_1888
theorem dL_law_1889 : decode code 1889 = .ok (.iadd, 1) := oc_96 shL_law_1889
theorem dL_law_1890 : decode code 1890 = .ok (.iaload, 1) := oc_46 shL_law_1890
theorem dL_law_1891 : decode code 1891 = .ok (.aload_n 0, 1) := oc_42 shL_law_1891
theorem dL_law_1892 : decode code 1892 = .ok (.iload_n 3, 1) := oc_29 shL_law_1892
theorem dL_law_1893 : decode code 1893 = .ok (.iconst 2, 1) := oc_5 shL_law_1893
theorem dL_law_1894 : decode code 1894 = .ok (.iadd, 1) := oc_96 shL_law_1894
theorem dL_law_1895 : decode code 1895 = .ok (.iaload, 1) := oc_46 shL_law_1895
theorem dL_law_1896 : decode code 1896 = .ok (.invokevirtual 213, 3) := oc_182 shL_law_1896
theorem dL_law_1899 : decode code 1899 = .ok (.pop, 1) := oc_87 shL_law_1899
theorem dL_law_1900 : decode code 1900 = .ok (.goto 369, 3) := oc_167 shL_law_1900 sgw_1_113
theorem dL_law_1903 : decode code 1903 = .ok (.aload_n 1, 1) := oc_43 shL_law_1903
theorem dL_law_1904 : decode code 1904 = .ok (.aload_n 0, 1) := oc_42 shL_law_1904
theorem dL_law_1905 : decode code 1905 = .ok (.iload_n 3, 1) := oc_29 shL_law_1905
theorem dL_law_1906 : decode code 1906 = .ok (.iconst 1, 1) := oc_4 shL_law_1906
theorem dL_law_1907 : decode code 1907 = .ok (.iadd, 1) := oc_96 shL_law_1907
theorem dL_law_1908 : decode code 1908 = .ok (.iaload, 1) := oc_46 shL_law_1908
theorem dL_law_1909 : decode code 1909 = .ok (.aload_n 0, 1) := oc_42 shL_law_1909
theorem dL_law_1910 : decode code 1910 = .ok (.iload_n 3, 1) := oc_29 shL_law_1910
theorem dL_law_1911 : decode code 1911 = .ok (.iconst 2, 1) := oc_5 shL_law_1911
theorem dL_law_1912 : decode code 1912 = .ok (.iadd, 1) := oc_96 shL_law_1912
theorem dL_law_1913 : decode code 1913 = .ok (.iaload, 1) := oc_46 shL_law_1913
theorem dL_law_1914 : decode code 1914 = .ok (.invokevirtual 214, 3) := oc_182 shL_law_1914
theorem dL_law_1917 : decode code 1917 = .ok (.pop, 1) := oc_87 shL_law_1917
theorem dL_law_1918 : decode code 1918 = .ok (.aload_n 2, 1) := oc_44 shL_law_1918
theorem dL_law_1919 : decode code 1919 = .ok (.aload_n 0, 1) := oc_42 shL_law_1919
theorem dL_law_1920 : decode code 1920 = .ok (.iload_n 3, 1) := oc_29 shL_law_1920
theorem dL_law_1921 : decode code 1921 = .ok (.iconst 1, 1) := oc_4 shL_law_1921
theorem dL_law_1922 : decode code 1922 = .ok (.iadd, 1) := oc_96 shL_law_1922
theorem dL_law_1923 : decode code 1923 = .ok (.iaload, 1) := oc_46 shL_law_1923
theorem dL_law_1924 : decode code 1924 = .ok (.aload_n 0, 1) := oc_42 shL_law_1924
theorem dL_law_1925 : decode code 1925 = .ok (.iload_n 3, 1) := oc_29 shL_law_1925
theorem dL_law_1926 : decode code 1926 = .ok (.iconst 2, 1) := oc_5 shL_law_1926
theorem dL_law_1927 : decode code 1927 = .ok (.iadd, 1) := oc_96 shL_law_1927
theorem dL_law_1928 : decode code 1928 = .ok (.iaload, 1) := oc_46 shL_law_1928
theorem dL_law_1929 : decode code 1929 = .ok (.invokevirtual 217, 3) := oc_182 shL_law_1929
theorem dL_law_1932 : decode code 1932 = .ok (.pop, 1) := oc_87 shL_law_1932
theorem dL_law_1933 : decode code 1933 = .ok (.goto 336, 3) := oc_167 shL_law_1933 sgw_1_80
theorem dL_law_1936 : decode code 1936 = .ok (.aload_n 1, 1) := oc_43 shL_law_1936
theorem dL_law_1937 : decode code 1937 = .ok (.aload_n 0, 1) := oc_42 shL_law_1937
theorem dL_law_1938 : decode code 1938 = .ok (.iload_n 3, 1) := oc_29 shL_law_1938
theorem dL_law_1939 : decode code 1939 = .ok (.iconst 1, 1) := oc_4 shL_law_1939
theorem dL_law_1940 : decode code 1940 = .ok (.iadd, 1) := oc_96 shL_law_1940
theorem dL_law_1941 : decode code 1941 = .ok (.iaload, 1) := oc_46 shL_law_1941
theorem dL_law_1942 : decode code 1942 = .ok (.aload_n 0, 1) := oc_42 shL_law_1942
theorem dL_law_1943 : decode code 1943 = .ok (.iload_n 3, 1) := oc_29 shL_law_1943
theorem dL_law_1944 : decode code 1944 = .ok (.iconst 2, 1) := oc_5 shL_law_1944
theorem dL_law_1945 : decode code 1945 = .ok (.iadd, 1) := oc_96 shL_law_1945
theorem dL_law_1946 : decode code 1946 = .ok (.iaload, 1) := oc_46 shL_law_1946
theorem dL_law_1947 : decode code 1947 = .ok (.aload_n 0, 1) := oc_42 shL_law_1947
theorem dL_law_1948 : decode code 1948 = .ok (.iload_n 3, 1) := oc_29 shL_law_1948
theorem dL_law_1949 : decode code 1949 = .ok (.iconst 3, 1) := oc_6 shL_law_1949
theorem dL_law_1950 : decode code 1950 = .ok (.iadd, 1) := oc_96 shL_law_1950
theorem dL_law_1951 : decode code 1951 = .ok (.iaload, 1) := oc_46 shL_law_1951
theorem dL_law_1952 : decode code 1952 = .ok (.invokevirtual 218, 3) := oc_182 shL_law_1952
theorem dL_law_1955 : decode code 1955 = .ok (.pop, 1) := oc_87 shL_law_1955
theorem dL_law_1956 : decode code 1956 = .ok (.aload_n 2, 1) := oc_44 shL_law_1956
theorem dL_law_1957 : decode code 1957 = .ok (.aload_n 0, 1) := oc_42 shL_law_1957
theorem dL_law_1958 : decode code 1958 = .ok (.iload_n 3, 1) := oc_29 shL_law_1958
theorem dL_law_1959 : decode code 1959 = .ok (.iconst 1, 1) := oc_4 shL_law_1959
theorem dL_law_1960 : decode code 1960 = .ok (.iadd, 1) := oc_96 shL_law_1960
theorem dL_law_1961 : decode code 1961 = .ok (.iaload, 1) := oc_46 shL_law_1961
theorem dL_law_1962 : decode code 1962 = .ok (.aload_n 0, 1) := oc_42 shL_law_1962
theorem dL_law_1963 : decode code 1963 = .ok (.iload_n 3, 1) := oc_29 shL_law_1963
theorem dL_law_1964 : decode code 1964 = .ok (.iconst 2, 1) := oc_5 shL_law_1964
theorem dL_law_1965 : decode code 1965 = .ok (.iadd, 1) := oc_96 shL_law_1965
theorem dL_law_1966 : decode code 1966 = .ok (.iaload, 1) := oc_46 shL_law_1966
theorem dL_law_1967 : decode code 1967 = .ok (.aload_n 0, 1) := oc_42 shL_law_1967
theorem dL_law_1968 : decode code 1968 = .ok (.iload_n 3, 1) := oc_29 shL_law_1968
theorem dL_law_1969 : decode code 1969 = .ok (.iconst 3, 1) := oc_6 shL_law_1969
theorem dL_law_1970 : decode code 1970 = .ok (.iadd, 1) := oc_96 shL_law_1970
theorem dL_law_1971 : decode code 1971 = .ok (.iaload, 1) := oc_46 shL_law_1971
theorem dL_law_1972 : decode code 1972 = .ok (.invokevirtual 221, 3) := oc_182 shL_law_1972
theorem dL_law_1975 : decode code 1975 = .ok (.pop, 1) := oc_87 shL_law_1975
theorem dL_law_1976 : decode code 1976 = .ok (.goto 293, 3) := oc_167 shL_law_1976 sgw_1_37
theorem dL_law_1979 : decode code 1979 = .ok (.aload_n 1, 1) := oc_43 shL_law_1979
theorem dL_law_1980 : decode code 1980 = .ok (.aload_n 0, 1) := oc_42 shL_law_1980
theorem dL_law_1981 : decode code 1981 = .ok (.iload_n 3, 1) := oc_29 shL_law_1981
theorem dL_law_1982 : decode code 1982 = .ok (.iconst 1, 1) := oc_4 shL_law_1982
theorem dL_law_1983 : decode code 1983 = .ok (.iadd, 1) := oc_96 shL_law_1983
theorem dL_law_1984 : decode code 1984 = .ok (.iaload, 1) := oc_46 shL_law_1984
theorem dL_law_1985 : decode code 1985 = .ok (.invokevirtual 222, 3) := oc_182 shL_law_1985
theorem dL_law_1988 : decode code 1988 = .ok (.pop, 1) := oc_87 shL_law_1988
theorem dL_law_1989 : decode code 1989 = .ok (.aload_n 2, 1) := oc_44 shL_law_1989
theorem dL_law_1990 : decode code 1990 = .ok (.aload_n 0, 1) := oc_42 shL_law_1990
theorem dL_law_1991 : decode code 1991 = .ok (.iload_n 3, 1) := oc_29 shL_law_1991
theorem dL_law_1992 : decode code 1992 = .ok (.iconst 1, 1) := oc_4 shL_law_1992
theorem dL_law_1993 : decode code 1993 = .ok (.iadd, 1) := oc_96 shL_law_1993
theorem dL_law_1994 : decode code 1994 = .ok (.iaload, 1) := oc_46 shL_law_1994
theorem dL_law_1995 : decode code 1995 = .ok (.invokevirtual 225, 3) := oc_182 shL_law_1995
theorem dL_law_1998 : decode code 1998 = .ok (.pop, 1) := oc_87 shL_law_1998
theorem dL_law_1999 : decode code 1999 = .ok (.goto 270, 3) := oc_167 shL_law_1999 sgw_1_14
theorem dL_law_2002 : decode code 2002 = .ok (.aload_n 1, 1) := oc_43 shL_law_2002
theorem dL_law_2003 : decode code 2003 = .ok (.aload_n 0, 1) := oc_42 shL_law_2003
theorem dL_law_2004 : decode code 2004 = .ok (.iload_n 3, 1) := oc_29 shL_law_2004
theorem dL_law_2005 : decode code 2005 = .ok (.iconst 1, 1) := oc_4 shL_law_2005
theorem dL_law_2006 : decode code 2006 = .ok (.iadd, 1) := oc_96 shL_law_2006
theorem dL_law_2007 : decode code 2007 = .ok (.iaload, 1) := oc_46 shL_law_2007
theorem dL_law_2008 : decode code 2008 = .ok (.aload_n 0, 1) := oc_42 shL_law_2008
theorem dL_law_2009 : decode code 2009 = .ok (.iload_n 3, 1) := oc_29 shL_law_2009
theorem dL_law_2010 : decode code 2010 = .ok (.iconst 2, 1) := oc_5 shL_law_2010
theorem dL_law_2011 : decode code 2011 = .ok (.iadd, 1) := oc_96 shL_law_2011
theorem dL_law_2012 : decode code 2012 = .ok (.iaload, 1) := oc_46 shL_law_2012
theorem dL_law_2013 : decode code 2013 = .ok (.invokevirtual 226, 3) := oc_182 shL_law_2013
theorem dL_law_2016 : decode code 2016 = .ok (.pop, 1) := oc_87 shL_law_2016
theorem dL_law_2017 : decode code 2017 = .ok (.aload_n 2, 1) := oc_44 shL_law_2017
theorem dL_law_2018 : decode code 2018 = .ok (.aload_n 0, 1) := oc_42 shL_law_2018
theorem dL_law_2019 : decode code 2019 = .ok (.iload_n 3, 1) := oc_29 shL_law_2019
theorem dL_law_2020 : decode code 2020 = .ok (.iconst 1, 1) := oc_4 shL_law_2020
theorem dL_law_2021 : decode code 2021 = .ok (.iadd, 1) := oc_96 shL_law_2021
theorem dL_law_2022 : decode code 2022 = .ok (.iaload, 1) := oc_46 shL_law_2022
theorem dL_law_2023 : decode code 2023 = .ok (.aload_n 0, 1) := oc_42 shL_law_2023
theorem dL_law_2024 : decode code 2024 = .ok (.iload_n 3, 1) := oc_29 shL_law_2024
theorem dL_law_2025 : decode code 2025 = .ok (.iconst 2, 1) := oc_5 shL_law_2025
theorem dL_law_2026 : decode code 2026 = .ok (.iadd, 1) := oc_96 shL_law_2026
theorem dL_law_2027 : decode code 2027 = .ok (.iaload, 1) := oc_46 shL_law_2027
theorem dL_law_2028 : decode code 2028 = .ok (.invokevirtual 229, 3) := oc_182 shL_law_2028
theorem dL_law_2031 : decode code 2031 = .ok (.pop, 1) := oc_87 shL_law_2031
theorem dL_law_2032 : decode code 2032 = .ok (.goto 237, 3) := oc_167 shL_law_2032 sgw_0_237
theorem dL_law_2035 : decode code 2035 = .ok (.aload_n 1, 1) := oc_43 shL_law_2035
theorem dL_law_2036 : decode code 2036 = .ok (.aload_n 0, 1) := oc_42 shL_law_2036
theorem dL_law_2037 : decode code 2037 = .ok (.iload_n 3, 1) := oc_29 shL_law_2037
theorem dL_law_2038 : decode code 2038 = .ok (.iconst 1, 1) := oc_4 shL_law_2038
theorem dL_law_2039 : decode code 2039 = .ok (.iadd, 1) := oc_96 shL_law_2039
theorem dL_law_2040 : decode code 2040 = .ok (.iaload, 1) := oc_46 shL_law_2040
theorem dL_law_2041 : decode code 2041 = .ok (.invokevirtual 230, 3) := oc_182 shL_law_2041
theorem dL_law_2044 : decode code 2044 = .ok (.pop, 1) := oc_87 shL_law_2044
theorem dL_law_2045 : decode code 2045 = .ok (.aload_n 2, 1) := oc_44 shL_law_2045
theorem dL_law_2046 : decode code 2046 = .ok (.aload_n 0, 1) := oc_42 shL_law_2046
theorem dL_law_2047 : decode code 2047 = .ok (.iload_n 3, 1) := oc_29 shL_law_2047
theorem dL_law_2048 : decode code 2048 = .ok (.iconst 1, 1) := oc_4 shL_law_2048
theorem dL_law_2049 : decode code 2049 = .ok (.iadd, 1) := oc_96 shL_law_2049
theorem dL_law_2050 : decode code 2050 = .ok (.iaload, 1) := oc_46 shL_law_2050
theorem dL_law_2051 : decode code 2051 = .ok (.invokevirtual 233, 3) := oc_182 shL_law_2051
theorem dL_law_2054 : decode code 2054 = .ok (.pop, 1) := oc_87 shL_law_2054
theorem dL_law_2055 : decode code 2055 = .ok (.goto 214, 3) := oc_167 shL_law_2055 sgw_0_214
theorem dL_law_2058 : decode code 2058 = .ok (.aload_n 1, 1) := oc_43 shL_law_2058
theorem dL_law_2059 : decode code 2059 = .ok (.aload_n 0, 1) := oc_42 shL_law_2059
theorem dL_law_2060 : decode code 2060 = .ok (.iload_n 3, 1) := oc_29 shL_law_2060
theorem dL_law_2061 : decode code 2061 = .ok (.iconst 1, 1) := oc_4 shL_law_2061
theorem dL_law_2062 : decode code 2062 = .ok (.iadd, 1) := oc_96 shL_law_2062
theorem dL_law_2063 : decode code 2063 = .ok (.iaload, 1) := oc_46 shL_law_2063
theorem dL_law_2064 : decode code 2064 = .ok (.aload_n 0, 1) := oc_42 shL_law_2064
theorem dL_law_2065 : decode code 2065 = .ok (.iload_n 3, 1) := oc_29 shL_law_2065
theorem dL_law_2066 : decode code 2066 = .ok (.iconst 2, 1) := oc_5 shL_law_2066
theorem dL_law_2067 : decode code 2067 = .ok (.iadd, 1) := oc_96 shL_law_2067
theorem dL_law_2068 : decode code 2068 = .ok (.iaload, 1) := oc_46 shL_law_2068
theorem dL_law_2069 : decode code 2069 = .ok (.invokevirtual 234, 3) := oc_182 shL_law_2069
theorem dL_law_2072 : decode code 2072 = .ok (.pop, 1) := oc_87 shL_law_2072
theorem dL_law_2073 : decode code 2073 = .ok (.aload_n 2, 1) := oc_44 shL_law_2073
theorem dL_law_2074 : decode code 2074 = .ok (.aload_n 0, 1) := oc_42 shL_law_2074
theorem dL_law_2075 : decode code 2075 = .ok (.iload_n 3, 1) := oc_29 shL_law_2075
theorem dL_law_2076 : decode code 2076 = .ok (.iconst 1, 1) := oc_4 shL_law_2076
theorem dL_law_2077 : decode code 2077 = .ok (.iadd, 1) := oc_96 shL_law_2077
theorem dL_law_2078 : decode code 2078 = .ok (.iaload, 1) := oc_46 shL_law_2078
theorem dL_law_2079 : decode code 2079 = .ok (.aload_n 0, 1) := oc_42 shL_law_2079
theorem dL_law_2080 : decode code 2080 = .ok (.iload_n 3, 1) := oc_29 shL_law_2080
theorem dL_law_2081 : decode code 2081 = .ok (.iconst 2, 1) := oc_5 shL_law_2081
theorem dL_law_2082 : decode code 2082 = .ok (.iadd, 1) := oc_96 shL_law_2082
theorem dL_law_2083 : decode code 2083 = .ok (.iaload, 1) := oc_46 shL_law_2083
theorem dL_law_2084 : decode code 2084 = .ok (.invokevirtual 237, 3) := oc_182 shL_law_2084
theorem dL_law_2087 : decode code 2087 = .ok (.pop, 1) := oc_87 shL_law_2087
theorem dL_law_2088 : decode code 2088 = .ok (.goto 181, 3) := oc_167 shL_law_2088 sgw_0_181
theorem dL_law_2091 : decode code 2091 = .ok (.aload_n 1, 1) := oc_43 shL_law_2091
theorem dL_law_2092 : decode code 2092 = .ok (.aload_n 0, 1) := oc_42 shL_law_2092
theorem dL_law_2093 : decode code 2093 = .ok (.iload_n 3, 1) := oc_29 shL_law_2093
theorem dL_law_2094 : decode code 2094 = .ok (.iconst 1, 1) := oc_4 shL_law_2094
theorem dL_law_2095 : decode code 2095 = .ok (.iadd, 1) := oc_96 shL_law_2095
theorem dL_law_2096 : decode code 2096 = .ok (.iaload, 1) := oc_46 shL_law_2096
theorem dL_law_2097 : decode code 2097 = .ok (.aload_n 0, 1) := oc_42 shL_law_2097
theorem dL_law_2098 : decode code 2098 = .ok (.iload_n 3, 1) := oc_29 shL_law_2098
theorem dL_law_2099 : decode code 2099 = .ok (.iconst 2, 1) := oc_5 shL_law_2099
theorem dL_law_2100 : decode code 2100 = .ok (.iadd, 1) := oc_96 shL_law_2100
theorem dL_law_2101 : decode code 2101 = .ok (.iaload, 1) := oc_46 shL_law_2101
theorem dL_law_2102 : decode code 2102 = .ok (.aload_n 0, 1) := oc_42 shL_law_2102
theorem dL_law_2103 : decode code 2103 = .ok (.iload_n 3, 1) := oc_29 shL_law_2103
theorem dL_law_2104 : decode code 2104 = .ok (.iconst 3, 1) := oc_6 shL_law_2104
theorem dL_law_2105 : decode code 2105 = .ok (.iadd, 1) := oc_96 shL_law_2105
theorem dL_law_2106 : decode code 2106 = .ok (.iaload, 1) := oc_46 shL_law_2106
theorem dL_law_2107 : decode code 2107 = .ok (.invokevirtual 238, 3) := oc_182 shL_law_2107
theorem dL_law_2110 : decode code 2110 = .ok (.pop, 1) := oc_87 shL_law_2110
theorem dL_law_2111 : decode code 2111 = .ok (.aload_n 2, 1) := oc_44 shL_law_2111
theorem dL_law_2112 : decode code 2112 = .ok (.aload_n 0, 1) := oc_42 shL_law_2112
theorem dL_law_2113 : decode code 2113 = .ok (.iload_n 3, 1) := oc_29 shL_law_2113
theorem dL_law_2114 : decode code 2114 = .ok (.iconst 1, 1) := oc_4 shL_law_2114
theorem dL_law_2115 : decode code 2115 = .ok (.iadd, 1) := oc_96 shL_law_2115
theorem dL_law_2116 : decode code 2116 = .ok (.iaload, 1) := oc_46 shL_law_2116
theorem dL_law_2117 : decode code 2117 = .ok (.aload_n 0, 1) := oc_42 shL_law_2117
theorem dL_law_2118 : decode code 2118 = .ok (.iload_n 3, 1) := oc_29 shL_law_2118
theorem dL_law_2119 : decode code 2119 = .ok (.iconst 2, 1) := oc_5 shL_law_2119
theorem dL_law_2120 : decode code 2120 = .ok (.iadd, 1) := oc_96 shL_law_2120
theorem dL_law_2121 : decode code 2121 = .ok (.iaload, 1) := oc_46 shL_law_2121
theorem dL_law_2122 : decode code 2122 = .ok (.aload_n 0, 1) := oc_42 shL_law_2122
theorem dL_law_2123 : decode code 2123 = .ok (.iload_n 3, 1) := oc_29 shL_law_2123
theorem dL_law_2124 : decode code 2124 = .ok (.iconst 3, 1) := oc_6 shL_law_2124
theorem dL_law_2125 : decode code 2125 = .ok (.iadd, 1) := oc_96 shL_law_2125
theorem dL_law_2126 : decode code 2126 = .ok (.iaload, 1) := oc_46 shL_law_2126
theorem dL_law_2127 : decode code 2127 = .ok (.invokevirtual 241, 3) := oc_182 shL_law_2127
theorem dL_law_2130 : decode code 2130 = .ok (.pop, 1) := oc_87 shL_law_2130
theorem dL_law_2131 : decode code 2131 = .ok (.goto 138, 3) := oc_167 shL_law_2131 sgw_0_138
theorem dL_law_2134 : decode code 2134 = .ok (.aload_n 1, 1) := oc_43 shL_law_2134
theorem dL_law_2135 : decode code 2135 = .ok (.aload_n 0, 1) := oc_42 shL_law_2135
theorem dL_law_2136 : decode code 2136 = .ok (.iload_n 3, 1) := oc_29 shL_law_2136
theorem dL_law_2137 : decode code 2137 = .ok (.iconst 1, 1) := oc_4 shL_law_2137
theorem dL_law_2138 : decode code 2138 = .ok (.iadd, 1) := oc_96 shL_law_2138
theorem dL_law_2139 : decode code 2139 = .ok (.iaload, 1) := oc_46 shL_law_2139
theorem dL_law_2140 : decode code 2140 = .ok (.aload_n 0, 1) := oc_42 shL_law_2140
theorem dL_law_2141 : decode code 2141 = .ok (.iload_n 3, 1) := oc_29 shL_law_2141
theorem dL_law_2142 : decode code 2142 = .ok (.iconst 2, 1) := oc_5 shL_law_2142
theorem dL_law_2143 : decode code 2143 = .ok (.iadd, 1) := oc_96 shL_law_2143
theorem dL_law_2144 : decode code 2144 = .ok (.iaload, 1) := oc_46 shL_law_2144
theorem dL_law_2145 : decode code 2145 = .ok (.invokevirtual 242, 3) := oc_182 shL_law_2145
theorem dL_law_2148 : decode code 2148 = .ok (.pop, 1) := oc_87 shL_law_2148
theorem dL_law_2149 : decode code 2149 = .ok (.aload_n 2, 1) := oc_44 shL_law_2149
theorem dL_law_2150 : decode code 2150 = .ok (.aload_n 0, 1) := oc_42 shL_law_2150
theorem dL_law_2151 : decode code 2151 = .ok (.iload_n 3, 1) := oc_29 shL_law_2151
theorem dL_law_2152 : decode code 2152 = .ok (.iconst 1, 1) := oc_4 shL_law_2152
theorem dL_law_2153 : decode code 2153 = .ok (.iadd, 1) := oc_96 shL_law_2153
theorem dL_law_2154 : decode code 2154 = .ok (.iaload, 1) := oc_46 shL_law_2154
theorem dL_law_2155 : decode code 2155 = .ok (.aload_n 0, 1) := oc_42 shL_law_2155
theorem dL_law_2156 : decode code 2156 = .ok (.iload_n 3, 1) := oc_29 shL_law_2156
theorem dL_law_2157 : decode code 2157 = .ok (.iconst 2, 1) := oc_5 shL_law_2157
theorem dL_law_2158 : decode code 2158 = .ok (.iadd, 1) := oc_96 shL_law_2158
theorem dL_law_2159 : decode code 2159 = .ok (.iaload, 1) := oc_46 shL_law_2159
theorem dL_law_2160 : decode code 2160 = .ok (.invokevirtual 245, 3) := oc_182 shL_law_2160
theorem dL_law_2163 : decode code 2163 = .ok (.pop, 1) := oc_87 shL_law_2163
theorem dL_law_2164 : decode code 2164 = .ok (.goto 105, 3) := oc_167 shL_law_2164 sgw_0_105
theorem dL_law_2167 : decode code 2167 = .ok (.aload_n 1, 1) := oc_43 shL_law_2167
theorem dL_law_2168 : decode code 2168 = .ok (.aload_n 0, 1) := oc_42 shL_law_2168
theorem dL_law_2169 : decode code 2169 = .ok (.iload_n 3, 1) := oc_29 shL_law_2169
theorem dL_law_2170 : decode code 2170 = .ok (.iconst 1, 1) := oc_4 shL_law_2170
theorem dL_law_2171 : decode code 2171 = .ok (.iadd, 1) := oc_96 shL_law_2171
theorem dL_law_2172 : decode code 2172 = .ok (.iaload, 1) := oc_46 shL_law_2172
theorem dL_law_2173 : decode code 2173 = .ok (.invokevirtual 246, 3) := oc_182 shL_law_2173
theorem dL_law_2176 : decode code 2176 = .ok (.pop, 1) := oc_87 shL_law_2176
theorem dL_law_2177 : decode code 2177 = .ok (.aload_n 2, 1) := oc_44 shL_law_2177
theorem dL_law_2178 : decode code 2178 = .ok (.aload_n 0, 1) := oc_42 shL_law_2178
theorem dL_law_2179 : decode code 2179 = .ok (.iload_n 3, 1) := oc_29 shL_law_2179
theorem dL_law_2180 : decode code 2180 = .ok (.iconst 1, 1) := oc_4 shL_law_2180
theorem dL_law_2181 : decode code 2181 = .ok (.iadd, 1) := oc_96 shL_law_2181
theorem dL_law_2182 : decode code 2182 = .ok (.iaload, 1) := oc_46 shL_law_2182
theorem dL_law_2183 : decode code 2183 = .ok (.invokevirtual 249, 3) := oc_182 shL_law_2183
theorem dL_law_2186 : decode code 2186 = .ok (.pop, 1) := oc_87 shL_law_2186
theorem dL_law_2187 : decode code 2187 = .ok (.goto 82, 3) := oc_167 shL_law_2187 sgw_0_82
theorem dL_law_2190 : decode code 2190 = .ok (.aload_n 1, 1) := oc_43 shL_law_2190
theorem dL_law_2191 : decode code 2191 = .ok (.aload_n 0, 1) := oc_42 shL_law_2191
theorem dL_law_2192 : decode code 2192 = .ok (.iload_n 3, 1) := oc_29 shL_law_2192
theorem dL_law_2193 : decode code 2193 = .ok (.iconst 1, 1) := oc_4 shL_law_2193
theorem dL_law_2194 : decode code 2194 = .ok (.iadd, 1) := oc_96 shL_law_2194
theorem dL_law_2195 : decode code 2195 = .ok (.iaload, 1) := oc_46 shL_law_2195
theorem dL_law_2196 : decode code 2196 = .ok (.invokevirtual 250, 3) := oc_182 shL_law_2196
theorem dL_law_2199 : decode code 2199 = .ok (.pop, 1) := oc_87 shL_law_2199
theorem dL_law_2200 : decode code 2200 = .ok (.aload_n 2, 1) := oc_44 shL_law_2200
theorem dL_law_2201 : decode code 2201 = .ok (.aload_n 0, 1) := oc_42 shL_law_2201
theorem dL_law_2202 : decode code 2202 = .ok (.iload_n 3, 1) := oc_29 shL_law_2202
theorem dL_law_2203 : decode code 2203 = .ok (.iconst 1, 1) := oc_4 shL_law_2203
theorem dL_law_2204 : decode code 2204 = .ok (.iadd, 1) := oc_96 shL_law_2204
theorem dL_law_2205 : decode code 2205 = .ok (.iaload, 1) := oc_46 shL_law_2205
theorem dL_law_2206 : decode code 2206 = .ok (.invokevirtual 253, 3) := oc_182 shL_law_2206
theorem dL_law_2209 : decode code 2209 = .ok (.pop, 1) := oc_87 shL_law_2209
theorem dL_law_2210 : decode code 2210 = .ok (.goto 59, 3) := oc_167 shL_law_2210 sgw_0_59
theorem dL_law_2213 : decode code 2213 = .ok (.aload_n 1, 1) := oc_43 shL_law_2213
theorem dL_law_2214 : decode code 2214 = .ok (.aload_n 0, 1) := oc_42 shL_law_2214
theorem dL_law_2215 : decode code 2215 = .ok (.iload_n 3, 1) := oc_29 shL_law_2215
theorem dL_law_2216 : decode code 2216 = .ok (.iconst 1, 1) := oc_4 shL_law_2216
theorem dL_law_2217 : decode code 2217 = .ok (.iadd, 1) := oc_96 shL_law_2217
theorem dL_law_2218 : decode code 2218 = .ok (.iaload, 1) := oc_46 shL_law_2218
theorem dL_law_2219 : decode code 2219 = .ok (.aload_n 0, 1) := oc_42 shL_law_2219
theorem dL_law_2220 : decode code 2220 = .ok (.iload_n 3, 1) := oc_29 shL_law_2220
theorem dL_law_2221 : decode code 2221 = .ok (.iconst 2, 1) := oc_5 shL_law_2221
theorem dL_law_2222 : decode code 2222 = .ok (.iadd, 1) := oc_96 shL_law_2222
theorem dL_law_2223 : decode code 2223 = .ok (.iaload, 1) := oc_46 shL_law_2223
theorem dL_law_2224 : decode code 2224 = .ok (.invokevirtual 254, 3) := oc_182 shL_law_2224
theorem dL_law_2227 : decode code 2227 = .ok (.pop, 1) := oc_87 shL_law_2227
theorem dL_law_2228 : decode code 2228 = .ok (.aload_n 2, 1) := oc_44 shL_law_2228
theorem dL_law_2229 : decode code 2229 = .ok (.aload_n 0, 1) := oc_42 shL_law_2229
theorem dL_law_2230 : decode code 2230 = .ok (.iload_n 3, 1) := oc_29 shL_law_2230
theorem dL_law_2231 : decode code 2231 = .ok (.iconst 1, 1) := oc_4 shL_law_2231
theorem dL_law_2232 : decode code 2232 = .ok (.iadd, 1) := oc_96 shL_law_2232
theorem dL_law_2233 : decode code 2233 = .ok (.iaload, 1) := oc_46 shL_law_2233
theorem dL_law_2234 : decode code 2234 = .ok (.aload_n 0, 1) := oc_42 shL_law_2234
theorem dL_law_2235 : decode code 2235 = .ok (.iload_n 3, 1) := oc_29 shL_law_2235
theorem dL_law_2236 : decode code 2236 = .ok (.iconst 2, 1) := oc_5 shL_law_2236
theorem dL_law_2237 : decode code 2237 = .ok (.iadd, 1) := oc_96 shL_law_2237
theorem dL_law_2238 : decode code 2238 = .ok (.iaload, 1) := oc_46 shL_law_2238
theorem dL_law_2239 : decode code 2239 = .ok (.invokevirtual 257, 3) := oc_182 shL_law_2239
theorem dL_law_2242 : decode code 2242 = .ok (.pop, 1) := oc_87 shL_law_2242
theorem dL_law_2243 : decode code 2243 = .ok (.goto 26, 3) := oc_167 shL_law_2243 sgw_0_26
theorem dL_law_2246 : decode code 2246 = .ok (.aload_n 1, 1) := oc_43 shL_law_2246
theorem dL_law_2247 : decode code 2247 = .ok (.aload_n 0, 1) := oc_42 shL_law_2247
theorem dL_law_2248 : decode code 2248 = .ok (.iload_n 3, 1) := oc_29 shL_law_2248
theorem dL_law_2249 : decode code 2249 = .ok (.iconst 1, 1) := oc_4 shL_law_2249
theorem dL_law_2250 : decode code 2250 = .ok (.iadd, 1) := oc_96 shL_law_2250
theorem dL_law_2251 : decode code 2251 = .ok (.iaload, 1) := oc_46 shL_law_2251
theorem dL_law_2252 : decode code 2252 = .ok (.invokevirtual 258, 3) := oc_182 shL_law_2252
theorem dL_law_2255 : decode code 2255 = .ok (.pop, 1) := oc_87 shL_law_2255
theorem dL_law_2256 : decode code 2256 = .ok (.aload_n 2, 1) := oc_44 shL_law_2256
theorem dL_law_2257 : decode code 2257 = .ok (.aload_n 0, 1) := oc_42 shL_law_2257
theorem dL_law_2258 : decode code 2258 = .ok (.iload_n 3, 1) := oc_29 shL_law_2258
theorem dL_law_2259 : decode code 2259 = .ok (.iconst 1, 1) := oc_4 shL_law_2259
theorem dL_law_2260 : decode code 2260 = .ok (.iadd, 1) := oc_96 shL_law_2260
theorem dL_law_2261 : decode code 2261 = .ok (.iaload, 1) := oc_46 shL_law_2261
theorem dL_law_2262 : decode code 2262 = .ok (.invokevirtual 261, 3) := oc_182 shL_law_2262
theorem dL_law_2265 : decode code 2265 = .ok (.pop, 1) := oc_87 shL_law_2265
theorem dL_law_2266 : decode code 2266 = .ok (.goto 3, 3) := oc_167 shL_law_2266 sgw_0_3
set_option maxRecDepth 100000 in
set_option maxHeartbeats 4000000 in
theorem lawc_45 {p : Program} {l : Launch} {e : Env} {s : State} {m : MethodId} {below : List Frame} {meth : Method} {c : Code} {b L : Nat} {xs : Nat → Int32} (C0 : lw_At p s m meth c b L xs) (hLN : L ≤ 3584) {A : Nat → Prop} (hA : ∀ q : Nat, s.heap.size ≤ q → A q) (hbA : ¬ A b) {D : va_G} {cI cB cZ : ClassId} {zz qq vv : Nat} {bt : Nat → Int32} {g g2 : Nat → Nat} (hK : KK D cI cB cZ s) (hXS : XS D zz qq vv bt A s s.heap) {ad : Nat → Nat → Nat} {cn : Nat → Nat} {In : Nat → Int32} {Fn : Nat → Nat → Int32} {c3 : Nat → Nat} {I3 : Nat → Int32} {F3 : Nat → Nat → Int32} (hI : IX ad cn Fn) (hM : IMM c3 F3) (hR : RR cn Fn c3 F3) {H : Heap} {locs : List Loc} (hP : va_P D vwCl (wX cI (D.1 99) zz g ad cn In Fn ++ wM cI cB cZ g2 c3 I3 F3) H) (hD : va_D A (wX cI (D.1 99) zz g ad cn In Fn ++ wM cI cB cZ g2 c3 I3 F3)) (hS : va_S A s.heap H locs) {K N i : Nat} (hi : i + 7 ≤ L) (hKN : K + 8 ≤ 600000 ∧ N + 240 ≤ 7302250) {ls : Array Slot} (hl : lv_has ls 4 [(0, .ref b), (1, .ref (g 0)), (2, .ref (g2 100)), (3, .int (nI i))]) (kk : ∀ (ad : Nat → Nat → Nat) (cn : Nat → Nat) (In : Nat → Int32) (Fn : Nat → Nat → Int32) (c3 : Nat → Nat) (I3 : Nat → Int32) (F3 : Nat → Nat → Int32) (H : Heap) (locs : List Loc), IX ad cn Fn → IMM c3 F3 → RR cn Fn c3 F3 → va_P D vwCl (wX cI (D.1 99) zz g ad cn In Fn ++ wM cI cB cZ g2 c3 I3 F3) H → va_D A (wX cI (D.1 99) zz g ad cn In Fn ++ wM cI cB cZ g2 c3 I3 F3) → va_S A s.heap H locs → ∀ ls : Array Slot, lv_has ls 4 [(0, .ref b), (1, .ref (g 0)), (2, .ref (g2 100)), (3, .int (nI i))] → W p l e room_1 s m #[Value.ref b] below meth c H locs (K + 8) (N + 240) (lw_Z below #[Value.ref b] s) (F0 m 2269 ls [])) : W p l e room_1 s m #[Value.ref b] below meth c H locs K N (lw_Z below #[Value.ref b] s) (F0 m 1837 ls []) := by
  obtain ⟨hx, hb, hr, hml, hown, hts, hX, hbl, hlocks, hgv⟩ := id C0
  have S : SF p m c code 4 s #[Value.ref b] RL := ⟨hx, hb, hml, hown, fun w h => hts w (wT_lw h)⟩
  refine lv_aload_n hx hb dL_law_1837 rfl (lvA1 hl) ?_
  refine lv_aload_n hx hb dL_law_1838 rfl (lvA0 hl) ?_
  refine lv_iload_n hx hb dL_law_1839 rfl (lvA3 hl) ?_
  refine lv_iconst (v := 1) hx hb dL_law_1840 kic_1 ?_
  refine lv_iadd hx hb dL_law_1841 ?_
  refine lv_topi (fun y_1 ey_1 => ?_)
  obtain rfl : y_1 = nI (i + 1) := ey_1.trans (nI_add i 1)
  refine va_sld hx hb hX hbl hbA hS (vp_in_nI (by omega) (by omega)) dL_law_1842 ?_
  refine lv_topi (fun y_2 ey_2 => ?_)
  obtain rfl : y_2 = xs (nI (i + 1)).toNatClampNeg := ey_2
  refine lv_aload_n hx hb dL_law_1843 rfl (lvA0 hl) ?_
  refine lv_iload_n hx hb dL_law_1844 rfl (lvA3 hl) ?_
  refine lv_iconst (v := 2) hx hb dL_law_1845 kic_2 ?_
  refine lv_iadd hx hb dL_law_1846 ?_
  refine lv_topi (fun y_3 ey_3 => ?_)
  obtain rfl : y_3 = nI (i + 2) := ey_3.trans (nI_add i 2)
  refine va_sld hx hb hX hbl hbA hS (vp_in_nI (by omega) (by omega)) dL_law_1847 ?_
  refine lv_topi (fun y_4 ey_4 => ?_)
  obtain rfl : y_4 = xs (nI (i + 2)).toNatClampNeg := ey_4
  refine vp_callSi (runV_rxa (As := [.int (xs (nI (i + 1)).toNatClampNeg), .int (xs (nI (i + 2)).toNatClampNeg)]) (rest := []) S (q_Xwhence l D cI cB cZ zz qq vv bt g ad cn In Fn (xs (nI (i + 1)).toNatClampNeg) (xs (nI (i + 2)).toNatClampNeg) hI.1) kV_RL_206 hK hXS hS (exP hP) 0 xo_0 rfl rfl ⟨Nat.le_of_ble_eq_true rfl, Nat.le_of_ble_eq_true rfl⟩ ⟨(by show K + 0 ≤ 600000; omega), (by show N + 0 ≤ 7302250; omega)⟩ rfl hl.1 rfl (Nat.le_of_ble_eq_true rfl) dL_law_1848) (fun r4 w4 => ?_)
  refine lv_pop hx hb dL_law_1851 rfl ?_
  refine lv_aload_n hx hb dL_law_1852 rfl (lvA2 hl) ?_
  refine lv_aload_n hx hb dL_law_1853 rfl (lvA0 hl) ?_
  refine lv_iload_n hx hb dL_law_1854 rfl (lvA3 hl) ?_
  refine lv_iconst (v := 1) hx hb dL_law_1855 kic_1 ?_
  refine lv_iadd hx hb dL_law_1856 ?_
  refine lv_topi (fun y_6 ey_6 => ?_)
  obtain rfl : y_6 = nI (i + 1) := ey_6.trans (nI_add i 1)
  refine va_sld hx hb hX hbl hbA hS (vp_in_nI (by omega) (by omega)) dL_law_1857 ?_
  refine lv_topi (fun y_7 ey_7 => ?_)
  obtain rfl : y_7 = xs (nI (i + 1)).toNatClampNeg := ey_7
  refine lv_aload_n hx hb dL_law_1858 rfl (lvA0 hl) ?_
  refine lv_iload_n hx hb dL_law_1859 rfl (lvA3 hl) ?_
  refine lv_iconst (v := 2) hx hb dL_law_1860 kic_2 ?_
  refine lv_iadd hx hb dL_law_1861 ?_
  refine lv_topi (fun y_8 ey_8 => ?_)
  obtain rfl : y_8 = nI (i + 2) := ey_8.trans (nI_add i 2)
  refine va_sld hx hb hX hbl hbA hS (vp_in_nI (by omega) (by omega)) dL_law_1862 ?_
  refine lv_topi (fun y_9 ey_9 => ?_)
  obtain rfl : y_9 = xs (nI (i + 2)).toNatClampNeg := ey_9
  have hFc := free_all (exDr hD) hS hA
  refine va_calli (runV_a (As := [.int (xs (nI (i + 1)).toNatClampNeg), .int (xs (nI (i + 2)).toNatClampNeg)]) (rest := []) S (q_whence l D cI cB cZ g2 c3 I3 F3 (xs (nI (i + 1)).toNatClampNeg) (xs (nI (i + 2)).toNatClampNeg) H.size hM.1) kV_RL_209 hK (exPr hP) (exDr hD) 0 rfl rfl rfl ⟨Nat.le_of_ble_eq_true rfl, Nat.le_of_ble_eq_true rfl⟩ ⟨(by show K + 0 ≤ 600000; omega), (by show N + 0 ≤ 7302250; omega)⟩ rfl hl.1 rfl (Nat.le_of_ble_eq_true rfl) dL_law_1863) hS (fun q _ h => hFc q h) hFc (fun r9 u t H1 locs ht hvm w9 hB1 hz1 hk1 hS => ?_)
  obtain ⟨c9, I9, F9⟩ := u
  obtain ⟨hP1, hD1⟩ := hB1
  rw [ht] at hP1
  obtain ⟨hP, hD⟩ := exjoin hP hD hk1 hFc hP1 hD1
  generalize H1 = H at hP hS ⊢
  obtain ⟨hM, hd9, hf9⟩ := imm_whence hM w9
  have hR := RR.fm hR hd9 hf9 (by decide) (by decide)
  refine lv_pop hx hb dL_law_1866 rfl ?_
  refine lv_goto (tgt := 2269) hx hb dL_law_1867 rfl ?_
  refine W.widen (k := K + 8) (n := N + 240) (by omega) (by omega) ?_
  exact kk _ _ _ _ _ _ _ _ _ hI hM hR hP hD hS ls hl
set_option maxRecDepth 100000 in
set_option maxHeartbeats 4000000 in
theorem lawc_46 {p : Program} {l : Launch} {e : Env} {s : State} {m : MethodId} {below : List Frame} {meth : Method} {c : Code} {b L : Nat} {xs : Nat → Int32} (C0 : lw_At p s m meth c b L xs) (hLN : L ≤ 3584) {A : Nat → Prop} (hA : ∀ q : Nat, s.heap.size ≤ q → A q) (hbA : ¬ A b) {D : va_G} {cI cB cZ : ClassId} {zz qq vv : Nat} {bt : Nat → Int32} {g g2 : Nat → Nat} (hK : KK D cI cB cZ s) (hXS : XS D zz qq vv bt A s s.heap) {ad : Nat → Nat → Nat} {cn : Nat → Nat} {In : Nat → Int32} {Fn : Nat → Nat → Int32} {c3 : Nat → Nat} {I3 : Nat → Int32} {F3 : Nat → Nat → Int32} (hI : IX ad cn Fn) (hM : IMM c3 F3) (hR : RR cn Fn c3 F3) {H : Heap} {locs : List Loc} (hP : va_P D vwCl (wX cI (D.1 99) zz g ad cn In Fn ++ wM cI cB cZ g2 c3 I3 F3) H) (hD : va_D A (wX cI (D.1 99) zz g ad cn In Fn ++ wM cI cB cZ g2 c3 I3 F3)) (hS : va_S A s.heap H locs) {K N i : Nat} (hi : i + 7 ≤ L) (hKN : K + 8 ≤ 600000 ∧ N + 240 ≤ 7302250) {ls : Array Slot} (hl : lv_has ls 4 [(0, .ref b), (1, .ref (g 0)), (2, .ref (g2 100)), (3, .int (nI i))]) (kk : ∀ (ad : Nat → Nat → Nat) (cn : Nat → Nat) (In : Nat → Int32) (Fn : Nat → Nat → Int32) (c3 : Nat → Nat) (I3 : Nat → Int32) (F3 : Nat → Nat → Int32) (H : Heap) (locs : List Loc), IX ad cn Fn → IMM c3 F3 → RR cn Fn c3 F3 → va_P D vwCl (wX cI (D.1 99) zz g ad cn In Fn ++ wM cI cB cZ g2 c3 I3 F3) H → va_D A (wX cI (D.1 99) zz g ad cn In Fn ++ wM cI cB cZ g2 c3 I3 F3) → va_S A s.heap H locs → ∀ ls : Array Slot, lv_has ls 4 [(0, .ref b), (1, .ref (g 0)), (2, .ref (g2 100)), (3, .int (nI i))] → W p l e room_1 s m #[Value.ref b] below meth c H locs (K + 8) (N + 240) (lw_Z below #[Value.ref b] s) (F0 m 2269 ls [])) : W p l e room_1 s m #[Value.ref b] below meth c H locs K N (lw_Z below #[Value.ref b] s) (F0 m 1870 ls []) := by
  obtain ⟨hx, hb, hr, hml, hown, hts, hX, hbl, hlocks, hgv⟩ := id C0
  have S : SF p m c code 4 s #[Value.ref b] RL := ⟨hx, hb, hml, hown, fun w h => hts w (wT_lw h)⟩
  refine lv_aload_n hx hb dL_law_1870 rfl (lvA1 hl) ?_
  refine lv_aload_n hx hb dL_law_1871 rfl (lvA0 hl) ?_
  refine lv_iload_n hx hb dL_law_1872 rfl (lvA3 hl) ?_
  refine lv_iconst (v := 1) hx hb dL_law_1873 kic_1 ?_
  refine lv_iadd hx hb dL_law_1874 ?_
  refine lv_topi (fun y_1 ey_1 => ?_)
  obtain rfl : y_1 = nI (i + 1) := ey_1.trans (nI_add i 1)
  refine va_sld hx hb hX hbl hbA hS (vp_in_nI (by omega) (by omega)) dL_law_1875 ?_
  refine lv_topi (fun y_2 ey_2 => ?_)
  obtain rfl : y_2 = xs (nI (i + 1)).toNatClampNeg := ey_2
  refine lv_aload_n hx hb dL_law_1876 rfl (lvA0 hl) ?_
  refine lv_iload_n hx hb dL_law_1877 rfl (lvA3 hl) ?_
  refine lv_iconst (v := 2) hx hb dL_law_1878 kic_2 ?_
  refine lv_iadd hx hb dL_law_1879 ?_
  refine lv_topi (fun y_3 ey_3 => ?_)
  obtain rfl : y_3 = nI (i + 2) := ey_3.trans (nI_add i 2)
  refine va_sld hx hb hX hbl hbA hS (vp_in_nI (by omega) (by omega)) dL_law_1880 ?_
  refine lv_topi (fun y_4 ey_4 => ?_)
  obtain rfl : y_4 = xs (nI (i + 2)).toNatClampNeg := ey_4
  refine vp_callSi (runV_rxa (As := [.int (xs (nI (i + 1)).toNatClampNeg), .int (xs (nI (i + 2)).toNatClampNeg)]) (rest := []) S (q_Xaudit l D cI cB cZ zz qq vv bt g ad cn In Fn (xs (nI (i + 1)).toNatClampNeg) (xs (nI (i + 2)).toNatClampNeg) hI.1) kV_RL_210 hK hXS hS (exP hP) 0 xo_0 rfl rfl ⟨Nat.le_of_ble_eq_true rfl, Nat.le_of_ble_eq_true rfl⟩ ⟨(by show K + 0 ≤ 600000; omega), (by show N + 0 ≤ 7302250; omega)⟩ rfl hl.1 rfl (Nat.le_of_ble_eq_true rfl) dL_law_1881) (fun r4 w4 => ?_)
  refine lv_pop hx hb dL_law_1884 rfl ?_
  refine lv_aload_n hx hb dL_law_1885 rfl (lvA2 hl) ?_
  refine lv_aload_n hx hb dL_law_1886 rfl (lvA0 hl) ?_
  refine lv_iload_n hx hb dL_law_1887 rfl (lvA3 hl) ?_
  refine lv_iconst (v := 1) hx hb dL_law_1888 kic_1 ?_
  refine lv_iadd hx hb dL_law_1889 ?_
  refine lv_topi (fun y_6 ey_6 => ?_)
  obtain rfl : y_6 = nI (i + 1) := ey_6.trans (nI_add i 1)
  refine va_sld hx hb hX hbl hbA hS (vp_in_nI (by omega) (by omega)) dL_law_1890 ?_
  refine lv_topi (fun y_7 ey_7 => ?_)
  obtain rfl : y_7 = xs (nI (i + 1)).toNatClampNeg := ey_7
  refine lv_aload_n hx hb dL_law_1891 rfl (lvA0 hl) ?_
  refine lv_iload_n hx hb dL_law_1892 rfl (lvA3 hl) ?_
  refine lv_iconst (v := 2) hx hb dL_law_1893 kic_2 ?_
  refine lv_iadd hx hb dL_law_1894 ?_
  refine lv_topi (fun y_8 ey_8 => ?_)
  obtain rfl : y_8 = nI (i + 2) := ey_8.trans (nI_add i 2)
  refine va_sld hx hb hX hbl hbA hS (vp_in_nI (by omega) (by omega)) dL_law_1895 ?_
  refine lv_topi (fun y_9 ey_9 => ?_)
  obtain rfl : y_9 = xs (nI (i + 2)).toNatClampNeg := ey_9
  refine vp_callSi (runV_ra (As := [.int (xs (nI (i + 1)).toNatClampNeg), .int (xs (nI (i + 2)).toNatClampNeg)]) (rest := []) S (q_audit l D cI cB cZ g2 c3 I3 F3 (xs (nI (i + 1)).toNatClampNeg) (xs (nI (i + 2)).toNatClampNeg) hM.1) kV_RL_213 hK (exPr hP) 0 rfl rfl rfl ⟨Nat.le_of_ble_eq_true rfl, Nat.le_of_ble_eq_true rfl⟩ ⟨(by show K + 0 ≤ 600000; omega), (by show N + 0 ≤ 7302250; omega)⟩ rfl hl.1 rfl (Nat.le_of_ble_eq_true rfl) dL_law_1896) (fun r9 w9 => ?_)
  refine lv_pop hx hb dL_law_1899 rfl ?_
  refine lv_goto (tgt := 2269) hx hb dL_law_1900 rfl ?_
  refine W.widen (k := K + 8) (n := N + 240) (by omega) (by omega) ?_
  exact kk _ _ _ _ _ _ _ _ _ hI hM hR hP hD hS ls hl
set_option maxRecDepth 100000 in
set_option maxHeartbeats 4000000 in
theorem lawc_47 {p : Program} {l : Launch} {e : Env} {s : State} {m : MethodId} {below : List Frame} {meth : Method} {c : Code} {b L : Nat} {xs : Nat → Int32} (C0 : lw_At p s m meth c b L xs) (hLN : L ≤ 3584) {A : Nat → Prop} (hA : ∀ q : Nat, s.heap.size ≤ q → A q) (hbA : ¬ A b) {D : va_G} {cI cB cZ : ClassId} {zz qq vv : Nat} {bt : Nat → Int32} {g g2 : Nat → Nat} (hK : KK D cI cB cZ s) (hXS : XS D zz qq vv bt A s s.heap) {ad : Nat → Nat → Nat} {cn : Nat → Nat} {In : Nat → Int32} {Fn : Nat → Nat → Int32} {c3 : Nat → Nat} {I3 : Nat → Int32} {F3 : Nat → Nat → Int32} (hI : IX ad cn Fn) (hM : IMM c3 F3) (hR : RR cn Fn c3 F3) {H : Heap} {locs : List Loc} (hP : va_P D vwCl (wX cI (D.1 99) zz g ad cn In Fn ++ wM cI cB cZ g2 c3 I3 F3) H) (hD : va_D A (wX cI (D.1 99) zz g ad cn In Fn ++ wM cI cB cZ g2 c3 I3 F3)) (hS : va_S A s.heap H locs) {K N i : Nat} (hi : i + 7 ≤ L) (hKN : K + 8 ≤ 600000 ∧ N + 240 ≤ 7302250) {ls : Array Slot} (hl : lv_has ls 4 [(0, .ref b), (1, .ref (g 0)), (2, .ref (g2 100)), (3, .int (nI i))]) (kk : ∀ (ad : Nat → Nat → Nat) (cn : Nat → Nat) (In : Nat → Int32) (Fn : Nat → Nat → Int32) (c3 : Nat → Nat) (I3 : Nat → Int32) (F3 : Nat → Nat → Int32) (H : Heap) (locs : List Loc), IX ad cn Fn → IMM c3 F3 → RR cn Fn c3 F3 → va_P D vwCl (wX cI (D.1 99) zz g ad cn In Fn ++ wM cI cB cZ g2 c3 I3 F3) H → va_D A (wX cI (D.1 99) zz g ad cn In Fn ++ wM cI cB cZ g2 c3 I3 F3) → va_S A s.heap H locs → ∀ ls : Array Slot, lv_has ls 4 [(0, .ref b), (1, .ref (g 0)), (2, .ref (g2 100)), (3, .int (nI i))] → W p l e room_1 s m #[Value.ref b] below meth c H locs (K + 8) (N + 240) (lw_Z below #[Value.ref b] s) (F0 m 2269 ls [])) : W p l e room_1 s m #[Value.ref b] below meth c H locs K N (lw_Z below #[Value.ref b] s) (F0 m 1903 ls []) := by
  obtain ⟨hx, hb, hr, hml, hown, hts, hX, hbl, hlocks, hgv⟩ := id C0
  have S : SF p m c code 4 s #[Value.ref b] RL := ⟨hx, hb, hml, hown, fun w h => hts w (wT_lw h)⟩
  refine lv_aload_n hx hb dL_law_1903 rfl (lvA1 hl) ?_
  refine lv_aload_n hx hb dL_law_1904 rfl (lvA0 hl) ?_
  refine lv_iload_n hx hb dL_law_1905 rfl (lvA3 hl) ?_
  refine lv_iconst (v := 1) hx hb dL_law_1906 kic_1 ?_
  refine lv_iadd hx hb dL_law_1907 ?_
  refine lv_topi (fun y_1 ey_1 => ?_)
  obtain rfl : y_1 = nI (i + 1) := ey_1.trans (nI_add i 1)
  refine va_sld hx hb hX hbl hbA hS (vp_in_nI (by omega) (by omega)) dL_law_1908 ?_
  refine lv_topi (fun y_2 ey_2 => ?_)
  obtain rfl : y_2 = xs (nI (i + 1)).toNatClampNeg := ey_2
  refine lv_aload_n hx hb dL_law_1909 rfl (lvA0 hl) ?_
  refine lv_iload_n hx hb dL_law_1910 rfl (lvA3 hl) ?_
  refine lv_iconst (v := 2) hx hb dL_law_1911 kic_2 ?_
  refine lv_iadd hx hb dL_law_1912 ?_
  refine lv_topi (fun y_3 ey_3 => ?_)
  obtain rfl : y_3 = nI (i + 2) := ey_3.trans (nI_add i 2)
  refine va_sld hx hb hX hbl hbA hS (vp_in_nI (by omega) (by omega)) dL_law_1913 ?_
  refine lv_topi (fun y_4 ey_4 => ?_)
  obtain rfl : y_4 = xs (nI (i + 2)).toNatClampNeg := ey_4
  have hFc := free_all (exD hD) hS hA
  refine va_calli (runV_xa (As := [.int (xs (nI (i + 1)).toNatClampNeg), .int (xs (nI (i + 2)).toNatClampNeg)]) (rest := []) S (q_Xuse l D cI cB cZ zz qq vv bt g ad cn In Fn (xs (nI (i + 1)).toNatClampNeg) (xs (nI (i + 2)).toNatClampNeg) H.size hI.1) kV_RL_214 hK hXS hS hFc (exP hP) (exD hD) 0 xo_0 rfl rfl ⟨Nat.le_of_ble_eq_true rfl, Nat.le_of_ble_eq_true rfl⟩ ⟨(by show K + 0 ≤ 600000; omega), (by show N + 0 ≤ 7302250; omega)⟩ rfl hl.1 rfl (Nat.le_of_ble_eq_true rfl) dL_law_1914) hS (fun q _ h => hFc q h) hFc (fun r4 u t H1 locs ht hvm w4 hB1 hz1 hk1 hS => ?_)
  obtain ⟨c4, I4, F4⟩ := u
  obtain ⟨hP1, hD1⟩ := hB1
  rw [ht] at hP1
  obtain ⟨hP, hD⟩ := exjoinL hP hD hk1 hFc hP1 hD1
  generalize H1 = H at hP hS ⊢
  have hd4 := w4.1.1
  have hf4 := w4.1.2.2
  have hI := IX.fr hI w4.1 w4.2.1 (by decide) (by decide)
  have hR := RR.fx hR hd4 hf4 (by decide) (by decide)
  refine lv_pop hx hb dL_law_1917 rfl ?_
  refine lv_aload_n hx hb dL_law_1918 rfl (lvA2 hl) ?_
  refine lv_aload_n hx hb dL_law_1919 rfl (lvA0 hl) ?_
  refine lv_iload_n hx hb dL_law_1920 rfl (lvA3 hl) ?_
  refine lv_iconst (v := 1) hx hb dL_law_1921 kic_1 ?_
  refine lv_iadd hx hb dL_law_1922 ?_
  refine lv_topi (fun y_6 ey_6 => ?_)
  obtain rfl : y_6 = nI (i + 1) := ey_6.trans (nI_add i 1)
  refine va_sld hx hb hX hbl hbA hS (vp_in_nI (by omega) (by omega)) dL_law_1923 ?_
  refine lv_topi (fun y_7 ey_7 => ?_)
  obtain rfl : y_7 = xs (nI (i + 1)).toNatClampNeg := ey_7
  refine lv_aload_n hx hb dL_law_1924 rfl (lvA0 hl) ?_
  refine lv_iload_n hx hb dL_law_1925 rfl (lvA3 hl) ?_
  refine lv_iconst (v := 2) hx hb dL_law_1926 kic_2 ?_
  refine lv_iadd hx hb dL_law_1927 ?_
  refine lv_topi (fun y_8 ey_8 => ?_)
  obtain rfl : y_8 = nI (i + 2) := ey_8.trans (nI_add i 2)
  refine va_sld hx hb hX hbl hbA hS (vp_in_nI (by omega) (by omega)) dL_law_1928 ?_
  refine lv_topi (fun y_9 ey_9 => ?_)
  obtain rfl : y_9 = xs (nI (i + 2)).toNatClampNeg := ey_9
  have hFc := free_all (exDr hD) hS hA
  refine va_calli (runV_a (As := [.int (xs (nI (i + 1)).toNatClampNeg), .int (xs (nI (i + 2)).toNatClampNeg)]) (rest := []) S (q_use l D cI cB cZ g2 c3 I3 F3 (xs (nI (i + 1)).toNatClampNeg) (xs (nI (i + 2)).toNatClampNeg) H.size hM.1) kV_RL_217 hK (exPr hP) (exDr hD) 0 rfl rfl rfl ⟨Nat.le_of_ble_eq_true rfl, Nat.le_of_ble_eq_true rfl⟩ ⟨(by show K + 0 ≤ 600000; omega), (by show N + 0 ≤ 7302250; omega)⟩ rfl hl.1 rfl (Nat.le_of_ble_eq_true rfl) dL_law_1929) hS (fun q _ h => hFc q h) hFc (fun r9 u t H1 locs ht hvm w9 hB1 hz1 hk1 hS => ?_)
  obtain ⟨c9, I9, F9⟩ := u
  obtain ⟨hP1, hD1⟩ := hB1
  rw [ht] at hP1
  obtain ⟨hP, hD⟩ := exjoin hP hD hk1 hFc hP1 hD1
  generalize H1 = H at hP hS ⊢
  obtain ⟨hM, hd9, hf9⟩ := imm_use hM w9
  have hR := RR.fm hR hd9 hf9 (by decide) (by decide)
  refine lv_pop hx hb dL_law_1932 rfl ?_
  refine lv_goto (tgt := 2269) hx hb dL_law_1933 rfl ?_
  refine W.widen (k := K + 8) (n := N + 240) (by omega) (by omega) ?_
  exact kk _ _ _ _ _ _ _ _ _ hI hM hR hP hD hS ls hl
set_option maxRecDepth 100000 in
set_option maxHeartbeats 4000000 in
theorem lawc_48 {p : Program} {l : Launch} {e : Env} {s : State} {m : MethodId} {below : List Frame} {meth : Method} {c : Code} {b L : Nat} {xs : Nat → Int32} (C0 : lw_At p s m meth c b L xs) (hLN : L ≤ 3584) {A : Nat → Prop} (hA : ∀ q : Nat, s.heap.size ≤ q → A q) (hbA : ¬ A b) {D : va_G} {cI cB cZ : ClassId} {zz qq vv : Nat} {bt : Nat → Int32} {g g2 : Nat → Nat} (hK : KK D cI cB cZ s) (hXS : XS D zz qq vv bt A s s.heap) {ad : Nat → Nat → Nat} {cn : Nat → Nat} {In : Nat → Int32} {Fn : Nat → Nat → Int32} {c3 : Nat → Nat} {I3 : Nat → Int32} {F3 : Nat → Nat → Int32} (hI : IX ad cn Fn) (hM : IMM c3 F3) (hR : RR cn Fn c3 F3) {H : Heap} {locs : List Loc} (hP : va_P D vwCl (wX cI (D.1 99) zz g ad cn In Fn ++ wM cI cB cZ g2 c3 I3 F3) H) (hD : va_D A (wX cI (D.1 99) zz g ad cn In Fn ++ wM cI cB cZ g2 c3 I3 F3)) (hS : va_S A s.heap H locs) {K N i : Nat} (hi : i + 7 ≤ L) (hKN : K + 8 ≤ 600000 ∧ N + 240 ≤ 7302250) {ls : Array Slot} (hl : lv_has ls 4 [(0, .ref b), (1, .ref (g 0)), (2, .ref (g2 100)), (3, .int (nI i))]) (kk : ∀ (ad : Nat → Nat → Nat) (cn : Nat → Nat) (In : Nat → Int32) (Fn : Nat → Nat → Int32) (c3 : Nat → Nat) (I3 : Nat → Int32) (F3 : Nat → Nat → Int32) (H : Heap) (locs : List Loc), IX ad cn Fn → IMM c3 F3 → RR cn Fn c3 F3 → va_P D vwCl (wX cI (D.1 99) zz g ad cn In Fn ++ wM cI cB cZ g2 c3 I3 F3) H → va_D A (wX cI (D.1 99) zz g ad cn In Fn ++ wM cI cB cZ g2 c3 I3 F3) → va_S A s.heap H locs → ∀ ls : Array Slot, lv_has ls 4 [(0, .ref b), (1, .ref (g 0)), (2, .ref (g2 100)), (3, .int (nI i))] → W p l e room_1 s m #[Value.ref b] below meth c H locs (K + 8) (N + 240) (lw_Z below #[Value.ref b] s) (F0 m 2269 ls [])) : W p l e room_1 s m #[Value.ref b] below meth c H locs K N (lw_Z below #[Value.ref b] s) (F0 m 1936 ls []) := by
  obtain ⟨hx, hb, hr, hml, hown, hts, hX, hbl, hlocks, hgv⟩ := id C0
  have S : SF p m c code 4 s #[Value.ref b] RL := ⟨hx, hb, hml, hown, fun w h => hts w (wT_lw h)⟩
  refine lv_aload_n hx hb dL_law_1936 rfl (lvA1 hl) ?_
  refine lv_aload_n hx hb dL_law_1937 rfl (lvA0 hl) ?_
  refine lv_iload_n hx hb dL_law_1938 rfl (lvA3 hl) ?_
  refine lv_iconst (v := 1) hx hb dL_law_1939 kic_1 ?_
  refine lv_iadd hx hb dL_law_1940 ?_
  refine lv_topi (fun y_1 ey_1 => ?_)
  obtain rfl : y_1 = nI (i + 1) := ey_1.trans (nI_add i 1)
  refine va_sld hx hb hX hbl hbA hS (vp_in_nI (by omega) (by omega)) dL_law_1941 ?_
  refine lv_topi (fun y_2 ey_2 => ?_)
  obtain rfl : y_2 = xs (nI (i + 1)).toNatClampNeg := ey_2
  refine lv_aload_n hx hb dL_law_1942 rfl (lvA0 hl) ?_
  refine lv_iload_n hx hb dL_law_1943 rfl (lvA3 hl) ?_
  refine lv_iconst (v := 2) hx hb dL_law_1944 kic_2 ?_
  refine lv_iadd hx hb dL_law_1945 ?_
  refine lv_topi (fun y_3 ey_3 => ?_)
  obtain rfl : y_3 = nI (i + 2) := ey_3.trans (nI_add i 2)
  refine va_sld hx hb hX hbl hbA hS (vp_in_nI (by omega) (by omega)) dL_law_1946 ?_
  refine lv_topi (fun y_4 ey_4 => ?_)
  obtain rfl : y_4 = xs (nI (i + 2)).toNatClampNeg := ey_4
  refine lv_aload_n hx hb dL_law_1947 rfl (lvA0 hl) ?_
  refine lv_iload_n hx hb dL_law_1948 rfl (lvA3 hl) ?_
  refine lv_iconst (v := 3) hx hb dL_law_1949 kic_3 ?_
  refine lv_iadd hx hb dL_law_1950 ?_
  refine lv_topi (fun y_5 ey_5 => ?_)
  obtain rfl : y_5 = nI (i + 3) := ey_5.trans (nI_add i 3)
  refine va_sld hx hb hX hbl hbA hS (vp_in_nI (by omega) (by omega)) dL_law_1951 ?_
  refine lv_topi (fun y_6 ey_6 => ?_)
  obtain rfl : y_6 = xs (nI (i + 3)).toNatClampNeg := ey_6
  have hFc := free_all (exD hD) hS hA
  refine va_calli (runV_xa (As := [.int (xs (nI (i + 1)).toNatClampNeg), .int (xs (nI (i + 2)).toNatClampNeg), .int (xs (nI (i + 3)).toNatClampNeg)]) (rest := []) S (q_Xrate l D cI cB cZ zz qq vv bt g ad cn In Fn (xs (nI (i + 1)).toNatClampNeg) (xs (nI (i + 2)).toNatClampNeg) (xs (nI (i + 3)).toNatClampNeg) H.size hI.1) kV_RL_218 hK hXS hS hFc (exP hP) (exD hD) 0 xo_0 rfl rfl ⟨Nat.le_of_ble_eq_true rfl, Nat.le_of_ble_eq_true rfl⟩ ⟨(by show K + 0 ≤ 600000; omega), (by show N + 0 ≤ 7302250; omega)⟩ rfl hl.1 rfl (Nat.le_of_ble_eq_true rfl) dL_law_1952) hS (fun q _ h => hFc q h) hFc (fun r6 u t H1 locs ht hvm w6 hB1 hz1 hk1 hS => ?_)
  obtain ⟨c6, I6, F6⟩ := u
  obtain ⟨hP1, hD1⟩ := hB1
  rw [ht] at hP1
  obtain ⟨hP, hD⟩ := exjoinL hP hD hk1 hFc hP1 hD1
  generalize H1 = H at hP hS ⊢
  have hd6 := w6.1.1
  have hf6 := w6.1.2.2
  have hI := IX.fr hI w6.1 w6.2.1 (by decide) (by decide)
  have hR := RR.fx hR hd6 hf6 (by decide) (by decide)
  refine lv_pop hx hb dL_law_1955 rfl ?_
  refine lv_aload_n hx hb dL_law_1956 rfl (lvA2 hl) ?_
  refine lv_aload_n hx hb dL_law_1957 rfl (lvA0 hl) ?_
  refine lv_iload_n hx hb dL_law_1958 rfl (lvA3 hl) ?_
  refine lv_iconst (v := 1) hx hb dL_law_1959 kic_1 ?_
  refine lv_iadd hx hb dL_law_1960 ?_
  refine lv_topi (fun y_8 ey_8 => ?_)
  obtain rfl : y_8 = nI (i + 1) := ey_8.trans (nI_add i 1)
  refine va_sld hx hb hX hbl hbA hS (vp_in_nI (by omega) (by omega)) dL_law_1961 ?_
  refine lv_topi (fun y_9 ey_9 => ?_)
  obtain rfl : y_9 = xs (nI (i + 1)).toNatClampNeg := ey_9
  refine lv_aload_n hx hb dL_law_1962 rfl (lvA0 hl) ?_
  refine lv_iload_n hx hb dL_law_1963 rfl (lvA3 hl) ?_
  refine lv_iconst (v := 2) hx hb dL_law_1964 kic_2 ?_
  refine lv_iadd hx hb dL_law_1965 ?_
  refine lv_topi (fun y_10 ey_10 => ?_)
  obtain rfl : y_10 = nI (i + 2) := ey_10.trans (nI_add i 2)
  refine va_sld hx hb hX hbl hbA hS (vp_in_nI (by omega) (by omega)) dL_law_1966 ?_
  refine lv_topi (fun y_11 ey_11 => ?_)
  obtain rfl : y_11 = xs (nI (i + 2)).toNatClampNeg := ey_11
  refine lv_aload_n hx hb dL_law_1967 rfl (lvA0 hl) ?_
  refine lv_iload_n hx hb dL_law_1968 rfl (lvA3 hl) ?_
  refine lv_iconst (v := 3) hx hb dL_law_1969 kic_3 ?_
  refine lv_iadd hx hb dL_law_1970 ?_
  refine lv_topi (fun y_12 ey_12 => ?_)
  obtain rfl : y_12 = nI (i + 3) := ey_12.trans (nI_add i 3)
  refine va_sld hx hb hX hbl hbA hS (vp_in_nI (by omega) (by omega)) dL_law_1971 ?_
  refine lv_topi (fun y_13 ey_13 => ?_)
  obtain rfl : y_13 = xs (nI (i + 3)).toNatClampNeg := ey_13
  have hFc := free_all (exDr hD) hS hA
  refine va_calli (runV_a (As := [.int (xs (nI (i + 1)).toNatClampNeg), .int (xs (nI (i + 2)).toNatClampNeg), .int (xs (nI (i + 3)).toNatClampNeg)]) (rest := []) S (q_rate l D cI cB cZ g2 c3 I3 F3 (xs (nI (i + 1)).toNatClampNeg) (xs (nI (i + 2)).toNatClampNeg) (xs (nI (i + 3)).toNatClampNeg) H.size hM.1) kV_RL_221 hK (exPr hP) (exDr hD) 0 rfl rfl rfl ⟨Nat.le_of_ble_eq_true rfl, Nat.le_of_ble_eq_true rfl⟩ ⟨(by show K + 0 ≤ 600000; omega), (by show N + 0 ≤ 7302250; omega)⟩ rfl hl.1 rfl (Nat.le_of_ble_eq_true rfl) dL_law_1972) hS (fun q _ h => hFc q h) hFc (fun r13 u t H1 locs ht hvm w13 hB1 hz1 hk1 hS => ?_)
  obtain ⟨c13, I13, F13⟩ := u
  obtain ⟨hP1, hD1⟩ := hB1
  rw [ht] at hP1
  obtain ⟨hP, hD⟩ := exjoin hP hD hk1 hFc hP1 hD1
  generalize H1 = H at hP hS ⊢
  obtain ⟨hM, hd13, hf13⟩ := imm_rate hM w13
  have hR := RR.fm hR hd13 hf13 (by decide) (by decide)
  refine lv_pop hx hb dL_law_1975 rfl ?_
  refine lv_goto (tgt := 2269) hx hb dL_law_1976 rfl ?_
  refine W.widen (k := K + 8) (n := N + 240) (by omega) (by omega) ?_
  exact kk _ _ _ _ _ _ _ _ _ hI hM hR hP hD hS ls hl
set_option maxRecDepth 100000 in
set_option maxHeartbeats 4000000 in
theorem lawc_49 {p : Program} {l : Launch} {e : Env} {s : State} {m : MethodId} {below : List Frame} {meth : Method} {c : Code} {b L : Nat} {xs : Nat → Int32} (C0 : lw_At p s m meth c b L xs) (hLN : L ≤ 3584) {A : Nat → Prop} (hA : ∀ q : Nat, s.heap.size ≤ q → A q) (hbA : ¬ A b) {D : va_G} {cI cB cZ : ClassId} {zz qq vv : Nat} {bt : Nat → Int32} {g g2 : Nat → Nat} (hK : KK D cI cB cZ s) (hXS : XS D zz qq vv bt A s s.heap) {ad : Nat → Nat → Nat} {cn : Nat → Nat} {In : Nat → Int32} {Fn : Nat → Nat → Int32} {c3 : Nat → Nat} {I3 : Nat → Int32} {F3 : Nat → Nat → Int32} (hI : IX ad cn Fn) (hM : IMM c3 F3) (hR : RR cn Fn c3 F3) {H : Heap} {locs : List Loc} (hP : va_P D vwCl (wX cI (D.1 99) zz g ad cn In Fn ++ wM cI cB cZ g2 c3 I3 F3) H) (hD : va_D A (wX cI (D.1 99) zz g ad cn In Fn ++ wM cI cB cZ g2 c3 I3 F3)) (hS : va_S A s.heap H locs) {K N i : Nat} (hi : i + 7 ≤ L) (hKN : K + 8 ≤ 600000 ∧ N + 240 ≤ 7302250) {ls : Array Slot} (hl : lv_has ls 4 [(0, .ref b), (1, .ref (g 0)), (2, .ref (g2 100)), (3, .int (nI i))]) (kk : ∀ (ad : Nat → Nat → Nat) (cn : Nat → Nat) (In : Nat → Int32) (Fn : Nat → Nat → Int32) (c3 : Nat → Nat) (I3 : Nat → Int32) (F3 : Nat → Nat → Int32) (H : Heap) (locs : List Loc), IX ad cn Fn → IMM c3 F3 → RR cn Fn c3 F3 → va_P D vwCl (wX cI (D.1 99) zz g ad cn In Fn ++ wM cI cB cZ g2 c3 I3 F3) H → va_D A (wX cI (D.1 99) zz g ad cn In Fn ++ wM cI cB cZ g2 c3 I3 F3) → va_S A s.heap H locs → ∀ ls : Array Slot, lv_has ls 4 [(0, .ref b), (1, .ref (g 0)), (2, .ref (g2 100)), (3, .int (nI i))] → W p l e room_1 s m #[Value.ref b] below meth c H locs (K + 8) (N + 240) (lw_Z below #[Value.ref b] s) (F0 m 2269 ls [])) : W p l e room_1 s m #[Value.ref b] below meth c H locs K N (lw_Z below #[Value.ref b] s) (F0 m 1979 ls []) := by
  obtain ⟨hx, hb, hr, hml, hown, hts, hX, hbl, hlocks, hgv⟩ := id C0
  have S : SF p m c code 4 s #[Value.ref b] RL := ⟨hx, hb, hml, hown, fun w h => hts w (wT_lw h)⟩
  refine lv_aload_n hx hb dL_law_1979 rfl (lvA1 hl) ?_
  refine lv_aload_n hx hb dL_law_1980 rfl (lvA0 hl) ?_
  refine lv_iload_n hx hb dL_law_1981 rfl (lvA3 hl) ?_
  refine lv_iconst (v := 1) hx hb dL_law_1982 kic_1 ?_
  refine lv_iadd hx hb dL_law_1983 ?_
  refine lv_topi (fun y_1 ey_1 => ?_)
  obtain rfl : y_1 = nI (i + 1) := ey_1.trans (nI_add i 1)
  refine va_sld hx hb hX hbl hbA hS (vp_in_nI (by omega) (by omega)) dL_law_1984 ?_
  refine lv_topi (fun y_2 ey_2 => ?_)
  obtain rfl : y_2 = xs (nI (i + 1)).toNatClampNeg := ey_2
  refine vp_callSi (runV_rxa (As := [.int (xs (nI (i + 1)).toNatClampNeg)]) (rest := []) S (q_Xtax l D cI cB cZ zz qq vv bt g ad cn In Fn (xs (nI (i + 1)).toNatClampNeg) hI.1) kV_RL_222 hK hXS hS (exP hP) 0 xo_0 rfl rfl ⟨Nat.le_of_ble_eq_true rfl, Nat.le_of_ble_eq_true rfl⟩ ⟨(by show K + 0 ≤ 600000; omega), (by show N + 0 ≤ 7302250; omega)⟩ rfl hl.1 rfl (Nat.le_of_ble_eq_true rfl) dL_law_1985) (fun r2 w2 => ?_)
  refine lv_pop hx hb dL_law_1988 rfl ?_
  refine lv_aload_n hx hb dL_law_1989 rfl (lvA2 hl) ?_
  refine lv_aload_n hx hb dL_law_1990 rfl (lvA0 hl) ?_
  refine lv_iload_n hx hb dL_law_1991 rfl (lvA3 hl) ?_
  refine lv_iconst (v := 1) hx hb dL_law_1992 kic_1 ?_
  refine lv_iadd hx hb dL_law_1993 ?_
  refine lv_topi (fun y_4 ey_4 => ?_)
  obtain rfl : y_4 = nI (i + 1) := ey_4.trans (nI_add i 1)
  refine va_sld hx hb hX hbl hbA hS (vp_in_nI (by omega) (by omega)) dL_law_1994 ?_
  refine lv_topi (fun y_5 ey_5 => ?_)
  obtain rfl : y_5 = xs (nI (i + 1)).toNatClampNeg := ey_5
  refine vp_callSi (runV_ra (As := [.int (xs (nI (i + 1)).toNatClampNeg)]) (rest := []) S (q_tax l D cI cB cZ g2 c3 I3 F3 (xs (nI (i + 1)).toNatClampNeg) hM.1) kV_RL_225 hK (exPr hP) 0 rfl rfl rfl ⟨Nat.le_of_ble_eq_true rfl, Nat.le_of_ble_eq_true rfl⟩ ⟨(by show K + 0 ≤ 600000; omega), (by show N + 0 ≤ 7302250; omega)⟩ rfl hl.1 rfl (Nat.le_of_ble_eq_true rfl) dL_law_1995) (fun r5 w5 => ?_)
  refine lv_pop hx hb dL_law_1998 rfl ?_
  refine lv_goto (tgt := 2269) hx hb dL_law_1999 rfl ?_
  refine W.widen (k := K + 8) (n := N + 240) (by omega) (by omega) ?_
  exact kk _ _ _ _ _ _ _ _ _ hI hM hR hP hD hS ls hl
set_option maxRecDepth 100000 in
set_option maxHeartbeats 4000000 in
theorem lawc_50 {p : Program} {l : Launch} {e : Env} {s : State} {m : MethodId} {below : List Frame} {meth : Method} {c : Code} {b L : Nat} {xs : Nat → Int32} (C0 : lw_At p s m meth c b L xs) (hLN : L ≤ 3584) {A : Nat → Prop} (hA : ∀ q : Nat, s.heap.size ≤ q → A q) (hbA : ¬ A b) {D : va_G} {cI cB cZ : ClassId} {zz qq vv : Nat} {bt : Nat → Int32} {g g2 : Nat → Nat} (hK : KK D cI cB cZ s) (hXS : XS D zz qq vv bt A s s.heap) {ad : Nat → Nat → Nat} {cn : Nat → Nat} {In : Nat → Int32} {Fn : Nat → Nat → Int32} {c3 : Nat → Nat} {I3 : Nat → Int32} {F3 : Nat → Nat → Int32} (hI : IX ad cn Fn) (hM : IMM c3 F3) (hR : RR cn Fn c3 F3) {H : Heap} {locs : List Loc} (hP : va_P D vwCl (wX cI (D.1 99) zz g ad cn In Fn ++ wM cI cB cZ g2 c3 I3 F3) H) (hD : va_D A (wX cI (D.1 99) zz g ad cn In Fn ++ wM cI cB cZ g2 c3 I3 F3)) (hS : va_S A s.heap H locs) {K N i : Nat} (hi : i + 7 ≤ L) (hKN : K + 8 ≤ 600000 ∧ N + 240 ≤ 7302250) {ls : Array Slot} (hl : lv_has ls 4 [(0, .ref b), (1, .ref (g 0)), (2, .ref (g2 100)), (3, .int (nI i))]) (kk : ∀ (ad : Nat → Nat → Nat) (cn : Nat → Nat) (In : Nat → Int32) (Fn : Nat → Nat → Int32) (c3 : Nat → Nat) (I3 : Nat → Int32) (F3 : Nat → Nat → Int32) (H : Heap) (locs : List Loc), IX ad cn Fn → IMM c3 F3 → RR cn Fn c3 F3 → va_P D vwCl (wX cI (D.1 99) zz g ad cn In Fn ++ wM cI cB cZ g2 c3 I3 F3) H → va_D A (wX cI (D.1 99) zz g ad cn In Fn ++ wM cI cB cZ g2 c3 I3 F3) → va_S A s.heap H locs → ∀ ls : Array Slot, lv_has ls 4 [(0, .ref b), (1, .ref (g 0)), (2, .ref (g2 100)), (3, .int (nI i))] → W p l e room_1 s m #[Value.ref b] below meth c H locs (K + 8) (N + 240) (lw_Z below #[Value.ref b] s) (F0 m 2269 ls [])) : W p l e room_1 s m #[Value.ref b] below meth c H locs K N (lw_Z below #[Value.ref b] s) (F0 m 2002 ls []) := by
  obtain ⟨hx, hb, hr, hml, hown, hts, hX, hbl, hlocks, hgv⟩ := id C0
  have S : SF p m c code 4 s #[Value.ref b] RL := ⟨hx, hb, hml, hown, fun w h => hts w (wT_lw h)⟩
  refine lv_aload_n hx hb dL_law_2002 rfl (lvA1 hl) ?_
  refine lv_aload_n hx hb dL_law_2003 rfl (lvA0 hl) ?_
  refine lv_iload_n hx hb dL_law_2004 rfl (lvA3 hl) ?_
  refine lv_iconst (v := 1) hx hb dL_law_2005 kic_1 ?_
  refine lv_iadd hx hb dL_law_2006 ?_
  refine lv_topi (fun y_1 ey_1 => ?_)
  obtain rfl : y_1 = nI (i + 1) := ey_1.trans (nI_add i 1)
  refine va_sld hx hb hX hbl hbA hS (vp_in_nI (by omega) (by omega)) dL_law_2007 ?_
  refine lv_topi (fun y_2 ey_2 => ?_)
  obtain rfl : y_2 = xs (nI (i + 1)).toNatClampNeg := ey_2
  refine lv_aload_n hx hb dL_law_2008 rfl (lvA0 hl) ?_
  refine lv_iload_n hx hb dL_law_2009 rfl (lvA3 hl) ?_
  refine lv_iconst (v := 2) hx hb dL_law_2010 kic_2 ?_
  refine lv_iadd hx hb dL_law_2011 ?_
  refine lv_topi (fun y_3 ey_3 => ?_)
  obtain rfl : y_3 = nI (i + 2) := ey_3.trans (nI_add i 2)
  refine va_sld hx hb hX hbl hbA hS (vp_in_nI (by omega) (by omega)) dL_law_2012 ?_
  refine lv_topi (fun y_4 ey_4 => ?_)
  obtain rfl : y_4 = xs (nI (i + 2)).toNatClampNeg := ey_4
  have hFc := free_all (exD hD) hS hA
  refine va_calli (runV_xa (As := [.int (xs (nI (i + 1)).toNatClampNeg), .int (xs (nI (i + 2)).toNatClampNeg)]) (rest := []) S (q_Xmost l D cI cB cZ zz qq vv bt g ad cn In Fn (xs (nI (i + 1)).toNatClampNeg) (xs (nI (i + 2)).toNatClampNeg) H.size hI.1) kV_RL_226 hK hXS hS hFc (exP hP) (exD hD) 0 xo_0 rfl rfl ⟨Nat.le_of_ble_eq_true rfl, Nat.le_of_ble_eq_true rfl⟩ ⟨(by show K + 0 ≤ 600000; omega), (by show N + 0 ≤ 7302250; omega)⟩ rfl hl.1 rfl (Nat.le_of_ble_eq_true rfl) dL_law_2013) hS (fun q _ h => hFc q h) hFc (fun r4 u t H1 locs ht hvm w4 hB1 hz1 hk1 hS => ?_)
  obtain ⟨c4, I4, F4⟩ := u
  obtain ⟨hP1, hD1⟩ := hB1
  rw [ht] at hP1
  obtain ⟨hP, hD⟩ := exjoinL hP hD hk1 hFc hP1 hD1
  generalize H1 = H at hP hS ⊢
  have hd4 := w4.1.1
  have hf4 := w4.1.2.2
  have hI := IX.fr hI w4.1 w4.2.1 (by decide) (by decide)
  have hR := RR.fx hR hd4 hf4 (by decide) (by decide)
  refine lv_pop hx hb dL_law_2016 rfl ?_
  refine lv_aload_n hx hb dL_law_2017 rfl (lvA2 hl) ?_
  refine lv_aload_n hx hb dL_law_2018 rfl (lvA0 hl) ?_
  refine lv_iload_n hx hb dL_law_2019 rfl (lvA3 hl) ?_
  refine lv_iconst (v := 1) hx hb dL_law_2020 kic_1 ?_
  refine lv_iadd hx hb dL_law_2021 ?_
  refine lv_topi (fun y_6 ey_6 => ?_)
  obtain rfl : y_6 = nI (i + 1) := ey_6.trans (nI_add i 1)
  refine va_sld hx hb hX hbl hbA hS (vp_in_nI (by omega) (by omega)) dL_law_2022 ?_
  refine lv_topi (fun y_7 ey_7 => ?_)
  obtain rfl : y_7 = xs (nI (i + 1)).toNatClampNeg := ey_7
  refine lv_aload_n hx hb dL_law_2023 rfl (lvA0 hl) ?_
  refine lv_iload_n hx hb dL_law_2024 rfl (lvA3 hl) ?_
  refine lv_iconst (v := 2) hx hb dL_law_2025 kic_2 ?_
  refine lv_iadd hx hb dL_law_2026 ?_
  refine lv_topi (fun y_8 ey_8 => ?_)
  obtain rfl : y_8 = nI (i + 2) := ey_8.trans (nI_add i 2)
  refine va_sld hx hb hX hbl hbA hS (vp_in_nI (by omega) (by omega)) dL_law_2027 ?_
  refine lv_topi (fun y_9 ey_9 => ?_)
  obtain rfl : y_9 = xs (nI (i + 2)).toNatClampNeg := ey_9
  have hFc := free_all (exDr hD) hS hA
  refine va_calli (runV_a (As := [.int (xs (nI (i + 1)).toNatClampNeg), .int (xs (nI (i + 2)).toNatClampNeg)]) (rest := []) S (q_most l D cI cB cZ g2 c3 I3 F3 (xs (nI (i + 1)).toNatClampNeg) (xs (nI (i + 2)).toNatClampNeg) H.size hM.1) kV_RL_229 hK (exPr hP) (exDr hD) 0 rfl rfl rfl ⟨Nat.le_of_ble_eq_true rfl, Nat.le_of_ble_eq_true rfl⟩ ⟨(by show K + 0 ≤ 600000; omega), (by show N + 0 ≤ 7302250; omega)⟩ rfl hl.1 rfl (Nat.le_of_ble_eq_true rfl) dL_law_2028) hS (fun q _ h => hFc q h) hFc (fun r9 u t H1 locs ht hvm w9 hB1 hz1 hk1 hS => ?_)
  obtain ⟨c9, I9, F9⟩ := u
  obtain ⟨hP1, hD1⟩ := hB1
  rw [ht] at hP1
  obtain ⟨hP, hD⟩ := exjoin hP hD hk1 hFc hP1 hD1
  generalize H1 = H at hP hS ⊢
  obtain ⟨hM, hd9, hf9⟩ := imm_most hM w9
  have hR := RR.fm hR hd9 hf9 (by decide) (by decide)
  refine lv_pop hx hb dL_law_2031 rfl ?_
  refine lv_goto (tgt := 2269) hx hb dL_law_2032 rfl ?_
  refine W.widen (k := K + 8) (n := N + 240) (by omega) (by omega) ?_
  exact kk _ _ _ _ _ _ _ _ _ hI hM hR hP hD hS ls hl
set_option maxRecDepth 100000 in
set_option maxHeartbeats 4000000 in
theorem lawc_51 {p : Program} {l : Launch} {e : Env} {s : State} {m : MethodId} {below : List Frame} {meth : Method} {c : Code} {b L : Nat} {xs : Nat → Int32} (C0 : lw_At p s m meth c b L xs) (hLN : L ≤ 3584) {A : Nat → Prop} (hA : ∀ q : Nat, s.heap.size ≤ q → A q) (hbA : ¬ A b) {D : va_G} {cI cB cZ : ClassId} {zz qq vv : Nat} {bt : Nat → Int32} {g g2 : Nat → Nat} (hK : KK D cI cB cZ s) (hXS : XS D zz qq vv bt A s s.heap) {ad : Nat → Nat → Nat} {cn : Nat → Nat} {In : Nat → Int32} {Fn : Nat → Nat → Int32} {c3 : Nat → Nat} {I3 : Nat → Int32} {F3 : Nat → Nat → Int32} (hI : IX ad cn Fn) (hM : IMM c3 F3) (hR : RR cn Fn c3 F3) {H : Heap} {locs : List Loc} (hP : va_P D vwCl (wX cI (D.1 99) zz g ad cn In Fn ++ wM cI cB cZ g2 c3 I3 F3) H) (hD : va_D A (wX cI (D.1 99) zz g ad cn In Fn ++ wM cI cB cZ g2 c3 I3 F3)) (hS : va_S A s.heap H locs) {K N i : Nat} (hi : i + 7 ≤ L) (hKN : K + 8 ≤ 600000 ∧ N + 240 ≤ 7302250) {ls : Array Slot} (hl : lv_has ls 4 [(0, .ref b), (1, .ref (g 0)), (2, .ref (g2 100)), (3, .int (nI i))]) (kk : ∀ (ad : Nat → Nat → Nat) (cn : Nat → Nat) (In : Nat → Int32) (Fn : Nat → Nat → Int32) (c3 : Nat → Nat) (I3 : Nat → Int32) (F3 : Nat → Nat → Int32) (H : Heap) (locs : List Loc), IX ad cn Fn → IMM c3 F3 → RR cn Fn c3 F3 → va_P D vwCl (wX cI (D.1 99) zz g ad cn In Fn ++ wM cI cB cZ g2 c3 I3 F3) H → va_D A (wX cI (D.1 99) zz g ad cn In Fn ++ wM cI cB cZ g2 c3 I3 F3) → va_S A s.heap H locs → ∀ ls : Array Slot, lv_has ls 4 [(0, .ref b), (1, .ref (g 0)), (2, .ref (g2 100)), (3, .int (nI i))] → W p l e room_1 s m #[Value.ref b] below meth c H locs (K + 8) (N + 240) (lw_Z below #[Value.ref b] s) (F0 m 2269 ls [])) : W p l e room_1 s m #[Value.ref b] below meth c H locs K N (lw_Z below #[Value.ref b] s) (F0 m 2035 ls []) := by
  obtain ⟨hx, hb, hr, hml, hown, hts, hX, hbl, hlocks, hgv⟩ := id C0
  have S : SF p m c code 4 s #[Value.ref b] RL := ⟨hx, hb, hml, hown, fun w h => hts w (wT_lw h)⟩
  refine lv_aload_n hx hb dL_law_2035 rfl (lvA1 hl) ?_
  refine lv_aload_n hx hb dL_law_2036 rfl (lvA0 hl) ?_
  refine lv_iload_n hx hb dL_law_2037 rfl (lvA3 hl) ?_
  refine lv_iconst (v := 1) hx hb dL_law_2038 kic_1 ?_
  refine lv_iadd hx hb dL_law_2039 ?_
  refine lv_topi (fun y_1 ey_1 => ?_)
  obtain rfl : y_1 = nI (i + 1) := ey_1.trans (nI_add i 1)
  refine va_sld hx hb hX hbl hbA hS (vp_in_nI (by omega) (by omega)) dL_law_2040 ?_
  refine lv_topi (fun y_2 ey_2 => ?_)
  obtain rfl : y_2 = xs (nI (i + 1)).toNatClampNeg := ey_2
  refine vp_callSi (runV_rxa (As := [.int (xs (nI (i + 1)).toNatClampNeg)]) (rest := []) S (q_Xoverdrawn l D cI cB cZ zz qq vv bt g ad cn In Fn (xs (nI (i + 1)).toNatClampNeg) hI.1) kV_RL_230 hK hXS hS (exP hP) 0 xo_0 rfl rfl ⟨Nat.le_of_ble_eq_true rfl, Nat.le_of_ble_eq_true rfl⟩ ⟨(by show K + 0 ≤ 600000; omega), (by show N + 0 ≤ 7302250; omega)⟩ rfl hl.1 rfl (Nat.le_of_ble_eq_true rfl) dL_law_2041) (fun r2 w2 => ?_)
  refine lv_pop hx hb dL_law_2044 rfl ?_
  refine lv_aload_n hx hb dL_law_2045 rfl (lvA2 hl) ?_
  refine lv_aload_n hx hb dL_law_2046 rfl (lvA0 hl) ?_
  refine lv_iload_n hx hb dL_law_2047 rfl (lvA3 hl) ?_
  refine lv_iconst (v := 1) hx hb dL_law_2048 kic_1 ?_
  refine lv_iadd hx hb dL_law_2049 ?_
  refine lv_topi (fun y_4 ey_4 => ?_)
  obtain rfl : y_4 = nI (i + 1) := ey_4.trans (nI_add i 1)
  refine va_sld hx hb hX hbl hbA hS (vp_in_nI (by omega) (by omega)) dL_law_2050 ?_
  refine lv_topi (fun y_5 ey_5 => ?_)
  obtain rfl : y_5 = xs (nI (i + 1)).toNatClampNeg := ey_5
  refine vp_callSi (runV_ra (As := [.int (xs (nI (i + 1)).toNatClampNeg)]) (rest := []) S (q_overdrawn l D cI cB cZ g2 c3 I3 F3 (xs (nI (i + 1)).toNatClampNeg) hM.1) kV_RL_233 hK (exPr hP) 0 rfl rfl rfl ⟨Nat.le_of_ble_eq_true rfl, Nat.le_of_ble_eq_true rfl⟩ ⟨(by show K + 0 ≤ 600000; omega), (by show N + 0 ≤ 7302250; omega)⟩ rfl hl.1 rfl (Nat.le_of_ble_eq_true rfl) dL_law_2051) (fun r5 w5 => ?_)
  refine lv_pop hx hb dL_law_2054 rfl ?_
  refine lv_goto (tgt := 2269) hx hb dL_law_2055 rfl ?_
  refine W.widen (k := K + 8) (n := N + 240) (by omega) (by omega) ?_
  exact kk _ _ _ _ _ _ _ _ _ hI hM hR hP hD hS ls hl
set_option maxRecDepth 100000 in
set_option maxHeartbeats 4000000 in
theorem lawc_52 {p : Program} {l : Launch} {e : Env} {s : State} {m : MethodId} {below : List Frame} {meth : Method} {c : Code} {b L : Nat} {xs : Nat → Int32} (C0 : lw_At p s m meth c b L xs) (hLN : L ≤ 3584) {A : Nat → Prop} (hA : ∀ q : Nat, s.heap.size ≤ q → A q) (hbA : ¬ A b) {D : va_G} {cI cB cZ : ClassId} {zz qq vv : Nat} {bt : Nat → Int32} {g g2 : Nat → Nat} (hK : KK D cI cB cZ s) (hXS : XS D zz qq vv bt A s s.heap) {ad : Nat → Nat → Nat} {cn : Nat → Nat} {In : Nat → Int32} {Fn : Nat → Nat → Int32} {c3 : Nat → Nat} {I3 : Nat → Int32} {F3 : Nat → Nat → Int32} (hI : IX ad cn Fn) (hM : IMM c3 F3) (hR : RR cn Fn c3 F3) {H : Heap} {locs : List Loc} (hP : va_P D vwCl (wX cI (D.1 99) zz g ad cn In Fn ++ wM cI cB cZ g2 c3 I3 F3) H) (hD : va_D A (wX cI (D.1 99) zz g ad cn In Fn ++ wM cI cB cZ g2 c3 I3 F3)) (hS : va_S A s.heap H locs) {K N i : Nat} (hi : i + 7 ≤ L) (hKN : K + 8 ≤ 600000 ∧ N + 240 ≤ 7302250) {ls : Array Slot} (hl : lv_has ls 4 [(0, .ref b), (1, .ref (g 0)), (2, .ref (g2 100)), (3, .int (nI i))]) (kk : ∀ (ad : Nat → Nat → Nat) (cn : Nat → Nat) (In : Nat → Int32) (Fn : Nat → Nat → Int32) (c3 : Nat → Nat) (I3 : Nat → Int32) (F3 : Nat → Nat → Int32) (H : Heap) (locs : List Loc), IX ad cn Fn → IMM c3 F3 → RR cn Fn c3 F3 → va_P D vwCl (wX cI (D.1 99) zz g ad cn In Fn ++ wM cI cB cZ g2 c3 I3 F3) H → va_D A (wX cI (D.1 99) zz g ad cn In Fn ++ wM cI cB cZ g2 c3 I3 F3) → va_S A s.heap H locs → ∀ ls : Array Slot, lv_has ls 4 [(0, .ref b), (1, .ref (g 0)), (2, .ref (g2 100)), (3, .int (nI i))] → W p l e room_1 s m #[Value.ref b] below meth c H locs (K + 8) (N + 240) (lw_Z below #[Value.ref b] s) (F0 m 2269 ls [])) : W p l e room_1 s m #[Value.ref b] below meth c H locs K N (lw_Z below #[Value.ref b] s) (F0 m 2058 ls []) := by
  obtain ⟨hx, hb, hr, hml, hown, hts, hX, hbl, hlocks, hgv⟩ := id C0
  have S : SF p m c code 4 s #[Value.ref b] RL := ⟨hx, hb, hml, hown, fun w h => hts w (wT_lw h)⟩
  refine lv_aload_n hx hb dL_law_2058 rfl (lvA1 hl) ?_
  refine lv_aload_n hx hb dL_law_2059 rfl (lvA0 hl) ?_
  refine lv_iload_n hx hb dL_law_2060 rfl (lvA3 hl) ?_
  refine lv_iconst (v := 1) hx hb dL_law_2061 kic_1 ?_
  refine lv_iadd hx hb dL_law_2062 ?_
  refine lv_topi (fun y_1 ey_1 => ?_)
  obtain rfl : y_1 = nI (i + 1) := ey_1.trans (nI_add i 1)
  refine va_sld hx hb hX hbl hbA hS (vp_in_nI (by omega) (by omega)) dL_law_2063 ?_
  refine lv_topi (fun y_2 ey_2 => ?_)
  obtain rfl : y_2 = xs (nI (i + 1)).toNatClampNeg := ey_2
  refine lv_aload_n hx hb dL_law_2064 rfl (lvA0 hl) ?_
  refine lv_iload_n hx hb dL_law_2065 rfl (lvA3 hl) ?_
  refine lv_iconst (v := 2) hx hb dL_law_2066 kic_2 ?_
  refine lv_iadd hx hb dL_law_2067 ?_
  refine lv_topi (fun y_3 ey_3 => ?_)
  obtain rfl : y_3 = nI (i + 2) := ey_3.trans (nI_add i 2)
  refine va_sld hx hb hX hbl hbA hS (vp_in_nI (by omega) (by omega)) dL_law_2068 ?_
  refine lv_topi (fun y_4 ey_4 => ?_)
  obtain rfl : y_4 = xs (nI (i + 2)).toNatClampNeg := ey_4
  have hFc := free_all (exD hD) hS hA
  refine va_calli (runV_xa (As := [.int (xs (nI (i + 1)).toNatClampNeg), .int (xs (nI (i + 2)).toNatClampNeg)]) (rest := []) S (q_XsampleM l D cI cB cZ zz qq vv bt g ad cn In Fn (xs (nI (i + 1)).toNatClampNeg) (xs (nI (i + 2)).toNatClampNeg) H.size hI.1 hI.2.2.2.2.2.1) kV_RL_234 hK hXS hS hFc (exP hP) (exD hD) 0 xo_0 rfl rfl ⟨Nat.le_of_ble_eq_true rfl, Nat.le_of_ble_eq_true rfl⟩ ⟨(by show K + 0 ≤ 600000; omega), (by show N + 0 ≤ 7302250; omega)⟩ rfl hl.1 rfl (Nat.le_of_ble_eq_true rfl) dL_law_2069) hS (fun q _ h => hFc q h) hFc (fun r4 u t H1 locs ht hvm w4 hB1 hz1 hk1 hS => ?_)
  obtain ⟨c4, I4, F4⟩ := u
  obtain ⟨hP1, hD1⟩ := hB1
  rw [ht] at hP1
  obtain ⟨hP, hD⟩ := exjoinL hP hD hk1 hFc hP1 hD1
  generalize H1 = H at hP hS ⊢
  have hd4 := w4.1.1
  have hf4 := w4.1.2.2
  have hI := IX.frs hI w4.1 w4.2.1 (by decide) w4.2.2
  have hR := RR.fx hR hd4 hf4 (by decide) (by decide)
  refine lv_pop hx hb dL_law_2072 rfl ?_
  refine lv_aload_n hx hb dL_law_2073 rfl (lvA2 hl) ?_
  refine lv_aload_n hx hb dL_law_2074 rfl (lvA0 hl) ?_
  refine lv_iload_n hx hb dL_law_2075 rfl (lvA3 hl) ?_
  refine lv_iconst (v := 1) hx hb dL_law_2076 kic_1 ?_
  refine lv_iadd hx hb dL_law_2077 ?_
  refine lv_topi (fun y_6 ey_6 => ?_)
  obtain rfl : y_6 = nI (i + 1) := ey_6.trans (nI_add i 1)
  refine va_sld hx hb hX hbl hbA hS (vp_in_nI (by omega) (by omega)) dL_law_2078 ?_
  refine lv_topi (fun y_7 ey_7 => ?_)
  obtain rfl : y_7 = xs (nI (i + 1)).toNatClampNeg := ey_7
  refine lv_aload_n hx hb dL_law_2079 rfl (lvA0 hl) ?_
  refine lv_iload_n hx hb dL_law_2080 rfl (lvA3 hl) ?_
  refine lv_iconst (v := 2) hx hb dL_law_2081 kic_2 ?_
  refine lv_iadd hx hb dL_law_2082 ?_
  refine lv_topi (fun y_8 ey_8 => ?_)
  obtain rfl : y_8 = nI (i + 2) := ey_8.trans (nI_add i 2)
  refine va_sld hx hb hX hbl hbA hS (vp_in_nI (by omega) (by omega)) dL_law_2083 ?_
  refine lv_topi (fun y_9 ey_9 => ?_)
  obtain rfl : y_9 = xs (nI (i + 2)).toNatClampNeg := ey_9
  have hFc := free_all (exDr hD) hS hA
  refine va_calli (runV_a (As := [.int (xs (nI (i + 1)).toNatClampNeg), .int (xs (nI (i + 2)).toNatClampNeg)]) (rest := []) S (q_sample l D cI cB cZ g2 c3 I3 F3 (xs (nI (i + 1)).toNatClampNeg) (xs (nI (i + 2)).toNatClampNeg) H.size hM.1) kV_RL_237 hK (exPr hP) (exDr hD) 0 rfl rfl rfl ⟨Nat.le_of_ble_eq_true rfl, Nat.le_of_ble_eq_true rfl⟩ ⟨(by show K + 0 ≤ 600000; omega), (by show N + 0 ≤ 7302250; omega)⟩ rfl hl.1 rfl (Nat.le_of_ble_eq_true rfl) dL_law_2084) hS (fun q _ h => hFc q h) hFc (fun r9 u t H1 locs ht hvm w9 hB1 hz1 hk1 hS => ?_)
  obtain ⟨c9, I9, F9⟩ := u
  obtain ⟨hP1, hD1⟩ := hB1
  rw [ht] at hP1
  obtain ⟨hP, hD⟩ := exjoin hP hD hk1 hFc hP1 hD1
  generalize H1 = H at hP hS ⊢
  obtain ⟨hM, hd9, hf9⟩ := imm_sample hM w9
  have hR := RR.fm hR hd9 hf9 (by decide) (by decide)
  refine lv_pop hx hb dL_law_2087 rfl ?_
  refine lv_goto (tgt := 2269) hx hb dL_law_2088 rfl ?_
  refine W.widen (k := K + 8) (n := N + 240) (by omega) (by omega) ?_
  exact kk _ _ _ _ _ _ _ _ _ hI hM hR hP hD hS ls hl
set_option maxRecDepth 100000 in
set_option maxHeartbeats 4000000 in
theorem lawc_53 {p : Program} {l : Launch} {e : Env} {s : State} {m : MethodId} {below : List Frame} {meth : Method} {c : Code} {b L : Nat} {xs : Nat → Int32} (C0 : lw_At p s m meth c b L xs) (hLN : L ≤ 3584) {A : Nat → Prop} (hA : ∀ q : Nat, s.heap.size ≤ q → A q) (hbA : ¬ A b) {D : va_G} {cI cB cZ : ClassId} {zz qq vv : Nat} {bt : Nat → Int32} {g g2 : Nat → Nat} (hK : KK D cI cB cZ s) (hXS : XS D zz qq vv bt A s s.heap) {ad : Nat → Nat → Nat} {cn : Nat → Nat} {In : Nat → Int32} {Fn : Nat → Nat → Int32} {c3 : Nat → Nat} {I3 : Nat → Int32} {F3 : Nat → Nat → Int32} (hI : IX ad cn Fn) (hM : IMM c3 F3) (hR : RR cn Fn c3 F3) {H : Heap} {locs : List Loc} (hP : va_P D vwCl (wX cI (D.1 99) zz g ad cn In Fn ++ wM cI cB cZ g2 c3 I3 F3) H) (hD : va_D A (wX cI (D.1 99) zz g ad cn In Fn ++ wM cI cB cZ g2 c3 I3 F3)) (hS : va_S A s.heap H locs) {K N i : Nat} (hi : i + 7 ≤ L) (hKN : K + 8 ≤ 600000 ∧ N + 240 ≤ 7302250) {ls : Array Slot} (hl : lv_has ls 4 [(0, .ref b), (1, .ref (g 0)), (2, .ref (g2 100)), (3, .int (nI i))]) (kk : ∀ (ad : Nat → Nat → Nat) (cn : Nat → Nat) (In : Nat → Int32) (Fn : Nat → Nat → Int32) (c3 : Nat → Nat) (I3 : Nat → Int32) (F3 : Nat → Nat → Int32) (H : Heap) (locs : List Loc), IX ad cn Fn → IMM c3 F3 → RR cn Fn c3 F3 → va_P D vwCl (wX cI (D.1 99) zz g ad cn In Fn ++ wM cI cB cZ g2 c3 I3 F3) H → va_D A (wX cI (D.1 99) zz g ad cn In Fn ++ wM cI cB cZ g2 c3 I3 F3) → va_S A s.heap H locs → ∀ ls : Array Slot, lv_has ls 4 [(0, .ref b), (1, .ref (g 0)), (2, .ref (g2 100)), (3, .int (nI i))] → W p l e room_1 s m #[Value.ref b] below meth c H locs (K + 8) (N + 240) (lw_Z below #[Value.ref b] s) (F0 m 2269 ls [])) : W p l e room_1 s m #[Value.ref b] below meth c H locs K N (lw_Z below #[Value.ref b] s) (F0 m 2091 ls []) := by
  obtain ⟨hx, hb, hr, hml, hown, hts, hX, hbl, hlocks, hgv⟩ := id C0
  have S : SF p m c code 4 s #[Value.ref b] RL := ⟨hx, hb, hml, hown, fun w h => hts w (wT_lw h)⟩
  refine lv_aload_n hx hb dL_law_2091 rfl (lvA1 hl) ?_
  refine lv_aload_n hx hb dL_law_2092 rfl (lvA0 hl) ?_
  refine lv_iload_n hx hb dL_law_2093 rfl (lvA3 hl) ?_
  refine lv_iconst (v := 1) hx hb dL_law_2094 kic_1 ?_
  refine lv_iadd hx hb dL_law_2095 ?_
  refine lv_topi (fun y_1 ey_1 => ?_)
  obtain rfl : y_1 = nI (i + 1) := ey_1.trans (nI_add i 1)
  refine va_sld hx hb hX hbl hbA hS (vp_in_nI (by omega) (by omega)) dL_law_2096 ?_
  refine lv_topi (fun y_2 ey_2 => ?_)
  obtain rfl : y_2 = xs (nI (i + 1)).toNatClampNeg := ey_2
  refine lv_aload_n hx hb dL_law_2097 rfl (lvA0 hl) ?_
  refine lv_iload_n hx hb dL_law_2098 rfl (lvA3 hl) ?_
  refine lv_iconst (v := 2) hx hb dL_law_2099 kic_2 ?_
  refine lv_iadd hx hb dL_law_2100 ?_
  refine lv_topi (fun y_3 ey_3 => ?_)
  obtain rfl : y_3 = nI (i + 2) := ey_3.trans (nI_add i 2)
  refine va_sld hx hb hX hbl hbA hS (vp_in_nI (by omega) (by omega)) dL_law_2101 ?_
  refine lv_topi (fun y_4 ey_4 => ?_)
  obtain rfl : y_4 = xs (nI (i + 2)).toNatClampNeg := ey_4
  refine lv_aload_n hx hb dL_law_2102 rfl (lvA0 hl) ?_
  refine lv_iload_n hx hb dL_law_2103 rfl (lvA3 hl) ?_
  refine lv_iconst (v := 3) hx hb dL_law_2104 kic_3 ?_
  refine lv_iadd hx hb dL_law_2105 ?_
  refine lv_topi (fun y_5 ey_5 => ?_)
  obtain rfl : y_5 = nI (i + 3) := ey_5.trans (nI_add i 3)
  refine va_sld hx hb hX hbl hbA hS (vp_in_nI (by omega) (by omega)) dL_law_2106 ?_
  refine lv_topi (fun y_6 ey_6 => ?_)
  obtain rfl : y_6 = xs (nI (i + 3)).toNatClampNeg := ey_6
  refine vp_callSi (runV_rxa (As := [.int (xs (nI (i + 1)).toNatClampNeg), .int (xs (nI (i + 2)).toNatClampNeg), .int (xs (nI (i + 3)).toNatClampNeg)]) (rest := []) S (q_Xclaim l D cI cB cZ zz qq vv bt g ad cn In Fn (xs (nI (i + 1)).toNatClampNeg) (xs (nI (i + 2)).toNatClampNeg) (xs (nI (i + 3)).toNatClampNeg) hI.1 hI.2.2.2.2.2.1) kV_RL_238 hK hXS hS (exP hP) 0 xo_0 rfl rfl ⟨Nat.le_of_ble_eq_true rfl, Nat.le_of_ble_eq_true rfl⟩ ⟨(by show K + 0 ≤ 600000; omega), (by show N + 0 ≤ 7302250; omega)⟩ rfl hl.1 rfl (Nat.le_of_ble_eq_true rfl) dL_law_2107) (fun r6 w6 => ?_)
  refine lv_pop hx hb dL_law_2110 rfl ?_
  refine lv_aload_n hx hb dL_law_2111 rfl (lvA2 hl) ?_
  refine lv_aload_n hx hb dL_law_2112 rfl (lvA0 hl) ?_
  refine lv_iload_n hx hb dL_law_2113 rfl (lvA3 hl) ?_
  refine lv_iconst (v := 1) hx hb dL_law_2114 kic_1 ?_
  refine lv_iadd hx hb dL_law_2115 ?_
  refine lv_topi (fun y_8 ey_8 => ?_)
  obtain rfl : y_8 = nI (i + 1) := ey_8.trans (nI_add i 1)
  refine va_sld hx hb hX hbl hbA hS (vp_in_nI (by omega) (by omega)) dL_law_2116 ?_
  refine lv_topi (fun y_9 ey_9 => ?_)
  obtain rfl : y_9 = xs (nI (i + 1)).toNatClampNeg := ey_9
  refine lv_aload_n hx hb dL_law_2117 rfl (lvA0 hl) ?_
  refine lv_iload_n hx hb dL_law_2118 rfl (lvA3 hl) ?_
  refine lv_iconst (v := 2) hx hb dL_law_2119 kic_2 ?_
  refine lv_iadd hx hb dL_law_2120 ?_
  refine lv_topi (fun y_10 ey_10 => ?_)
  obtain rfl : y_10 = nI (i + 2) := ey_10.trans (nI_add i 2)
  refine va_sld hx hb hX hbl hbA hS (vp_in_nI (by omega) (by omega)) dL_law_2121 ?_
  refine lv_topi (fun y_11 ey_11 => ?_)
  obtain rfl : y_11 = xs (nI (i + 2)).toNatClampNeg := ey_11
  refine lv_aload_n hx hb dL_law_2122 rfl (lvA0 hl) ?_
  refine lv_iload_n hx hb dL_law_2123 rfl (lvA3 hl) ?_
  refine lv_iconst (v := 3) hx hb dL_law_2124 kic_3 ?_
  refine lv_iadd hx hb dL_law_2125 ?_
  refine lv_topi (fun y_12 ey_12 => ?_)
  obtain rfl : y_12 = nI (i + 3) := ey_12.trans (nI_add i 3)
  refine va_sld hx hb hX hbl hbA hS (vp_in_nI (by omega) (by omega)) dL_law_2126 ?_
  refine lv_topi (fun y_13 ey_13 => ?_)
  obtain rfl : y_13 = xs (nI (i + 3)).toNatClampNeg := ey_13
  refine vp_callSi (runV_ra (As := [.int (xs (nI (i + 1)).toNatClampNeg), .int (xs (nI (i + 2)).toNatClampNeg), .int (xs (nI (i + 3)).toNatClampNeg)]) (rest := []) S (q_claim l D cI cB cZ g2 c3 I3 F3 (xs (nI (i + 1)).toNatClampNeg) (xs (nI (i + 2)).toNatClampNeg) (xs (nI (i + 3)).toNatClampNeg) hM.1) kV_RL_241 hK (exPr hP) 0 rfl rfl rfl ⟨Nat.le_of_ble_eq_true rfl, Nat.le_of_ble_eq_true rfl⟩ ⟨(by show K + 0 ≤ 600000; omega), (by show N + 0 ≤ 7302250; omega)⟩ rfl hl.1 rfl (Nat.le_of_ble_eq_true rfl) dL_law_2127) (fun r13 w13 => ?_)
  refine lv_pop hx hb dL_law_2130 rfl ?_
  refine lv_goto (tgt := 2269) hx hb dL_law_2131 rfl ?_
  refine W.widen (k := K + 8) (n := N + 240) (by omega) (by omega) ?_
  exact kk _ _ _ _ _ _ _ _ _ hI hM hR hP hD hS ls hl
set_option maxRecDepth 100000 in
set_option maxHeartbeats 4000000 in
theorem lawc_54 {p : Program} {l : Launch} {e : Env} {s : State} {m : MethodId} {below : List Frame} {meth : Method} {c : Code} {b L : Nat} {xs : Nat → Int32} (C0 : lw_At p s m meth c b L xs) (hLN : L ≤ 3584) {A : Nat → Prop} (hA : ∀ q : Nat, s.heap.size ≤ q → A q) (hbA : ¬ A b) {D : va_G} {cI cB cZ : ClassId} {zz qq vv : Nat} {bt : Nat → Int32} {g g2 : Nat → Nat} (hK : KK D cI cB cZ s) (hXS : XS D zz qq vv bt A s s.heap) {ad : Nat → Nat → Nat} {cn : Nat → Nat} {In : Nat → Int32} {Fn : Nat → Nat → Int32} {c3 : Nat → Nat} {I3 : Nat → Int32} {F3 : Nat → Nat → Int32} (hI : IX ad cn Fn) (hM : IMM c3 F3) (hR : RR cn Fn c3 F3) {H : Heap} {locs : List Loc} (hP : va_P D vwCl (wX cI (D.1 99) zz g ad cn In Fn ++ wM cI cB cZ g2 c3 I3 F3) H) (hD : va_D A (wX cI (D.1 99) zz g ad cn In Fn ++ wM cI cB cZ g2 c3 I3 F3)) (hS : va_S A s.heap H locs) {K N i : Nat} (hi : i + 7 ≤ L) (hKN : K + 8 ≤ 600000 ∧ N + 240 ≤ 7302250) {ls : Array Slot} (hl : lv_has ls 4 [(0, .ref b), (1, .ref (g 0)), (2, .ref (g2 100)), (3, .int (nI i))]) (kk : ∀ (ad : Nat → Nat → Nat) (cn : Nat → Nat) (In : Nat → Int32) (Fn : Nat → Nat → Int32) (c3 : Nat → Nat) (I3 : Nat → Int32) (F3 : Nat → Nat → Int32) (H : Heap) (locs : List Loc), IX ad cn Fn → IMM c3 F3 → RR cn Fn c3 F3 → va_P D vwCl (wX cI (D.1 99) zz g ad cn In Fn ++ wM cI cB cZ g2 c3 I3 F3) H → va_D A (wX cI (D.1 99) zz g ad cn In Fn ++ wM cI cB cZ g2 c3 I3 F3) → va_S A s.heap H locs → ∀ ls : Array Slot, lv_has ls 4 [(0, .ref b), (1, .ref (g 0)), (2, .ref (g2 100)), (3, .int (nI i))] → W p l e room_1 s m #[Value.ref b] below meth c H locs (K + 8) (N + 240) (lw_Z below #[Value.ref b] s) (F0 m 2269 ls [])) : W p l e room_1 s m #[Value.ref b] below meth c H locs K N (lw_Z below #[Value.ref b] s) (F0 m 2134 ls []) := by
  obtain ⟨hx, hb, hr, hml, hown, hts, hX, hbl, hlocks, hgv⟩ := id C0
  have S : SF p m c code 4 s #[Value.ref b] RL := ⟨hx, hb, hml, hown, fun w h => hts w (wT_lw h)⟩
  refine lv_aload_n hx hb dL_law_2134 rfl (lvA1 hl) ?_
  refine lv_aload_n hx hb dL_law_2135 rfl (lvA0 hl) ?_
  refine lv_iload_n hx hb dL_law_2136 rfl (lvA3 hl) ?_
  refine lv_iconst (v := 1) hx hb dL_law_2137 kic_1 ?_
  refine lv_iadd hx hb dL_law_2138 ?_
  refine lv_topi (fun y_1 ey_1 => ?_)
  obtain rfl : y_1 = nI (i + 1) := ey_1.trans (nI_add i 1)
  refine va_sld hx hb hX hbl hbA hS (vp_in_nI (by omega) (by omega)) dL_law_2139 ?_
  refine lv_topi (fun y_2 ey_2 => ?_)
  obtain rfl : y_2 = xs (nI (i + 1)).toNatClampNeg := ey_2
  refine lv_aload_n hx hb dL_law_2140 rfl (lvA0 hl) ?_
  refine lv_iload_n hx hb dL_law_2141 rfl (lvA3 hl) ?_
  refine lv_iconst (v := 2) hx hb dL_law_2142 kic_2 ?_
  refine lv_iadd hx hb dL_law_2143 ?_
  refine lv_topi (fun y_3 ey_3 => ?_)
  obtain rfl : y_3 = nI (i + 2) := ey_3.trans (nI_add i 2)
  refine va_sld hx hb hX hbl hbA hS (vp_in_nI (by omega) (by omega)) dL_law_2144 ?_
  refine lv_topi (fun y_4 ey_4 => ?_)
  obtain rfl : y_4 = xs (nI (i + 2)).toNatClampNeg := ey_4
  have hFc := free_all (exD hD) hS hA
  refine va_calli (runV_xa (As := [.int (xs (nI (i + 1)).toNatClampNeg), .int (xs (nI (i + 2)).toNatClampNeg)]) (rest := []) S (q_Xspill l D cI cB cZ zz qq vv bt g ad cn In Fn (xs (nI (i + 1)).toNatClampNeg) (xs (nI (i + 2)).toNatClampNeg) H.size hI.1) kV_RL_242 hK hXS hS hFc (exP hP) (exD hD) 0 xo_0 rfl rfl ⟨Nat.le_of_ble_eq_true rfl, Nat.le_of_ble_eq_true rfl⟩ ⟨(by show K + 0 ≤ 600000; omega), (by show N + 0 ≤ 7302250; omega)⟩ rfl hl.1 rfl (Nat.le_of_ble_eq_true rfl) dL_law_2145) hS (fun q _ h => hFc q h) hFc (fun r4 u t H1 locs ht hvm w4 hB1 hz1 hk1 hS => ?_)
  obtain ⟨c4, I4, F4⟩ := u
  obtain ⟨hP1, hD1⟩ := hB1
  rw [ht] at hP1
  obtain ⟨hP, hD⟩ := exjoinL hP hD hk1 hFc hP1 hD1
  generalize H1 = H at hP hS ⊢
  have hd4 := w4.1.1
  have hf4 := w4.1.2.2
  have hI := IX.fr hI w4.1 w4.2.1 (by decide) (by decide)
  have hR := RR.fx hR hd4 hf4 (by decide) (by decide)
  refine lv_pop hx hb dL_law_2148 rfl ?_
  refine lv_aload_n hx hb dL_law_2149 rfl (lvA2 hl) ?_
  refine lv_aload_n hx hb dL_law_2150 rfl (lvA0 hl) ?_
  refine lv_iload_n hx hb dL_law_2151 rfl (lvA3 hl) ?_
  refine lv_iconst (v := 1) hx hb dL_law_2152 kic_1 ?_
  refine lv_iadd hx hb dL_law_2153 ?_
  refine lv_topi (fun y_6 ey_6 => ?_)
  obtain rfl : y_6 = nI (i + 1) := ey_6.trans (nI_add i 1)
  refine va_sld hx hb hX hbl hbA hS (vp_in_nI (by omega) (by omega)) dL_law_2154 ?_
  refine lv_topi (fun y_7 ey_7 => ?_)
  obtain rfl : y_7 = xs (nI (i + 1)).toNatClampNeg := ey_7
  refine lv_aload_n hx hb dL_law_2155 rfl (lvA0 hl) ?_
  refine lv_iload_n hx hb dL_law_2156 rfl (lvA3 hl) ?_
  refine lv_iconst (v := 2) hx hb dL_law_2157 kic_2 ?_
  refine lv_iadd hx hb dL_law_2158 ?_
  refine lv_topi (fun y_8 ey_8 => ?_)
  obtain rfl : y_8 = nI (i + 2) := ey_8.trans (nI_add i 2)
  refine va_sld hx hb hX hbl hbA hS (vp_in_nI (by omega) (by omega)) dL_law_2159 ?_
  refine lv_topi (fun y_9 ey_9 => ?_)
  obtain rfl : y_9 = xs (nI (i + 2)).toNatClampNeg := ey_9
  have hFc := free_all (exDr hD) hS hA
  refine va_calli (runV_a (As := [.int (xs (nI (i + 1)).toNatClampNeg), .int (xs (nI (i + 2)).toNatClampNeg)]) (rest := []) S (q_spill l D cI cB cZ g2 c3 I3 F3 (xs (nI (i + 1)).toNatClampNeg) (xs (nI (i + 2)).toNatClampNeg) H.size hM.1) kV_RL_245 hK (exPr hP) (exDr hD) 0 rfl rfl rfl ⟨Nat.le_of_ble_eq_true rfl, Nat.le_of_ble_eq_true rfl⟩ ⟨(by show K + 0 ≤ 600000; omega), (by show N + 0 ≤ 7302250; omega)⟩ rfl hl.1 rfl (Nat.le_of_ble_eq_true rfl) dL_law_2160) hS (fun q _ h => hFc q h) hFc (fun r9 u t H1 locs ht hvm w9 hB1 hz1 hk1 hS => ?_)
  obtain ⟨c9, I9, F9⟩ := u
  obtain ⟨hP1, hD1⟩ := hB1
  rw [ht] at hP1
  obtain ⟨hP, hD⟩ := exjoin hP hD hk1 hFc hP1 hD1
  generalize H1 = H at hP hS ⊢
  obtain ⟨hM, hd9, hf9⟩ := imm_spill hM w9
  have hR := RR.fm hR hd9 hf9 (by decide) (by decide)
  refine lv_pop hx hb dL_law_2163 rfl ?_
  refine lv_goto (tgt := 2269) hx hb dL_law_2164 rfl ?_
  refine W.widen (k := K + 8) (n := N + 240) (by omega) (by omega) ?_
  exact kk _ _ _ _ _ _ _ _ _ hI hM hR hP hD hS ls hl
set_option maxRecDepth 100000 in
set_option maxHeartbeats 4000000 in
theorem lawc_55 {p : Program} {l : Launch} {e : Env} {s : State} {m : MethodId} {below : List Frame} {meth : Method} {c : Code} {b L : Nat} {xs : Nat → Int32} (C0 : lw_At p s m meth c b L xs) (hLN : L ≤ 3584) {A : Nat → Prop} (hA : ∀ q : Nat, s.heap.size ≤ q → A q) (hbA : ¬ A b) {D : va_G} {cI cB cZ : ClassId} {zz qq vv : Nat} {bt : Nat → Int32} {g g2 : Nat → Nat} (hK : KK D cI cB cZ s) (hXS : XS D zz qq vv bt A s s.heap) {ad : Nat → Nat → Nat} {cn : Nat → Nat} {In : Nat → Int32} {Fn : Nat → Nat → Int32} {c3 : Nat → Nat} {I3 : Nat → Int32} {F3 : Nat → Nat → Int32} (hI : IX ad cn Fn) (hM : IMM c3 F3) (hR : RR cn Fn c3 F3) {H : Heap} {locs : List Loc} (hP : va_P D vwCl (wX cI (D.1 99) zz g ad cn In Fn ++ wM cI cB cZ g2 c3 I3 F3) H) (hD : va_D A (wX cI (D.1 99) zz g ad cn In Fn ++ wM cI cB cZ g2 c3 I3 F3)) (hS : va_S A s.heap H locs) {K N i : Nat} (hi : i + 7 ≤ L) (hKN : K + 8 ≤ 600000 ∧ N + 240 ≤ 7302250) {ls : Array Slot} (hl : lv_has ls 4 [(0, .ref b), (1, .ref (g 0)), (2, .ref (g2 100)), (3, .int (nI i))]) (kk : ∀ (ad : Nat → Nat → Nat) (cn : Nat → Nat) (In : Nat → Int32) (Fn : Nat → Nat → Int32) (c3 : Nat → Nat) (I3 : Nat → Int32) (F3 : Nat → Nat → Int32) (H : Heap) (locs : List Loc), IX ad cn Fn → IMM c3 F3 → RR cn Fn c3 F3 → va_P D vwCl (wX cI (D.1 99) zz g ad cn In Fn ++ wM cI cB cZ g2 c3 I3 F3) H → va_D A (wX cI (D.1 99) zz g ad cn In Fn ++ wM cI cB cZ g2 c3 I3 F3) → va_S A s.heap H locs → ∀ ls : Array Slot, lv_has ls 4 [(0, .ref b), (1, .ref (g 0)), (2, .ref (g2 100)), (3, .int (nI i))] → W p l e room_1 s m #[Value.ref b] below meth c H locs (K + 8) (N + 240) (lw_Z below #[Value.ref b] s) (F0 m 2269 ls [])) : W p l e room_1 s m #[Value.ref b] below meth c H locs K N (lw_Z below #[Value.ref b] s) (F0 m 2167 ls []) := by
  obtain ⟨hx, hb, hr, hml, hown, hts, hX, hbl, hlocks, hgv⟩ := id C0
  have S : SF p m c code 4 s #[Value.ref b] RL := ⟨hx, hb, hml, hown, fun w h => hts w (wT_lw h)⟩
  refine lv_aload_n hx hb dL_law_2167 rfl (lvA1 hl) ?_
  refine lv_aload_n hx hb dL_law_2168 rfl (lvA0 hl) ?_
  refine lv_iload_n hx hb dL_law_2169 rfl (lvA3 hl) ?_
  refine lv_iconst (v := 1) hx hb dL_law_2170 kic_1 ?_
  refine lv_iadd hx hb dL_law_2171 ?_
  refine lv_topi (fun y_1 ey_1 => ?_)
  obtain rfl : y_1 = nI (i + 1) := ey_1.trans (nI_add i 1)
  refine va_sld hx hb hX hbl hbA hS (vp_in_nI (by omega) (by omega)) dL_law_2172 ?_
  refine lv_topi (fun y_2 ey_2 => ?_)
  obtain rfl : y_2 = xs (nI (i + 1)).toNatClampNeg := ey_2
  refine vp_callSi (runV_rxa (As := [.int (xs (nI (i + 1)).toNatClampNeg)]) (rest := []) S (q_Xstock l D cI cB cZ zz qq vv bt g ad cn In Fn (xs (nI (i + 1)).toNatClampNeg) hI.1) kV_RL_246 hK hXS hS (exP hP) 0 xo_0 rfl rfl ⟨Nat.le_of_ble_eq_true rfl, Nat.le_of_ble_eq_true rfl⟩ ⟨(by show K + 0 ≤ 600000; omega), (by show N + 0 ≤ 7302250; omega)⟩ rfl hl.1 rfl (Nat.le_of_ble_eq_true rfl) dL_law_2173) (fun r2 w2 => ?_)
  refine lv_pop hx hb dL_law_2176 rfl ?_
  refine lv_aload_n hx hb dL_law_2177 rfl (lvA2 hl) ?_
  refine lv_aload_n hx hb dL_law_2178 rfl (lvA0 hl) ?_
  refine lv_iload_n hx hb dL_law_2179 rfl (lvA3 hl) ?_
  refine lv_iconst (v := 1) hx hb dL_law_2180 kic_1 ?_
  refine lv_iadd hx hb dL_law_2181 ?_
  refine lv_topi (fun y_4 ey_4 => ?_)
  obtain rfl : y_4 = nI (i + 1) := ey_4.trans (nI_add i 1)
  refine va_sld hx hb hX hbl hbA hS (vp_in_nI (by omega) (by omega)) dL_law_2182 ?_
  refine lv_topi (fun y_5 ey_5 => ?_)
  obtain rfl : y_5 = xs (nI (i + 1)).toNatClampNeg := ey_5
  have hFc := free_all (exDr hD) hS hA
  refine va_calli (runV_a (As := [.int (xs (nI (i + 1)).toNatClampNeg)]) (rest := []) S (q_stock l D cI cB cZ g2 c3 I3 F3 (xs (nI (i + 1)).toNatClampNeg) H.size hM.1) kV_RL_249 hK (exPr hP) (exDr hD) 0 rfl rfl rfl ⟨Nat.le_of_ble_eq_true rfl, Nat.le_of_ble_eq_true rfl⟩ ⟨(by show K + 0 ≤ 600000; omega), (by show N + 0 ≤ 7302250; omega)⟩ rfl hl.1 rfl (Nat.le_of_ble_eq_true rfl) dL_law_2183) hS (fun q _ h => hFc q h) hFc (fun r5 u t H1 locs ht hvm w5 hB1 hz1 hk1 hS => ?_)
  obtain ⟨c5, I5, F5⟩ := u
  obtain ⟨hP1, hD1⟩ := hB1
  rw [ht] at hP1
  obtain ⟨hP, hD⟩ := exjoin hP hD hk1 hFc hP1 hD1
  generalize H1 = H at hP hS ⊢
  obtain ⟨hM, hd5, hf5⟩ := imm_stock hM w5
  have hR := RR.fm hR hd5 hf5 (by decide) (by decide)
  refine lv_pop hx hb dL_law_2186 rfl ?_
  refine lv_goto (tgt := 2269) hx hb dL_law_2187 rfl ?_
  refine W.widen (k := K + 8) (n := N + 240) (by omega) (by omega) ?_
  exact kk _ _ _ _ _ _ _ _ _ hI hM hR hP hD hS ls hl
set_option maxRecDepth 100000 in
set_option maxHeartbeats 4000000 in
theorem lawc_56 {p : Program} {l : Launch} {e : Env} {s : State} {m : MethodId} {below : List Frame} {meth : Method} {c : Code} {b L : Nat} {xs : Nat → Int32} (C0 : lw_At p s m meth c b L xs) (hLN : L ≤ 3584) {A : Nat → Prop} (hA : ∀ q : Nat, s.heap.size ≤ q → A q) (hbA : ¬ A b) {D : va_G} {cI cB cZ : ClassId} {zz qq vv : Nat} {bt : Nat → Int32} {g g2 : Nat → Nat} (hK : KK D cI cB cZ s) (hXS : XS D zz qq vv bt A s s.heap) {ad : Nat → Nat → Nat} {cn : Nat → Nat} {In : Nat → Int32} {Fn : Nat → Nat → Int32} {c3 : Nat → Nat} {I3 : Nat → Int32} {F3 : Nat → Nat → Int32} (hI : IX ad cn Fn) (hM : IMM c3 F3) (hR : RR cn Fn c3 F3) {H : Heap} {locs : List Loc} (hP : va_P D vwCl (wX cI (D.1 99) zz g ad cn In Fn ++ wM cI cB cZ g2 c3 I3 F3) H) (hD : va_D A (wX cI (D.1 99) zz g ad cn In Fn ++ wM cI cB cZ g2 c3 I3 F3)) (hS : va_S A s.heap H locs) {K N i : Nat} (hi : i + 7 ≤ L) (hKN : K + 8 ≤ 600000 ∧ N + 240 ≤ 7302250) {ls : Array Slot} (hl : lv_has ls 4 [(0, .ref b), (1, .ref (g 0)), (2, .ref (g2 100)), (3, .int (nI i))]) (kk : ∀ (ad : Nat → Nat → Nat) (cn : Nat → Nat) (In : Nat → Int32) (Fn : Nat → Nat → Int32) (c3 : Nat → Nat) (I3 : Nat → Int32) (F3 : Nat → Nat → Int32) (H : Heap) (locs : List Loc), IX ad cn Fn → IMM c3 F3 → RR cn Fn c3 F3 → va_P D vwCl (wX cI (D.1 99) zz g ad cn In Fn ++ wM cI cB cZ g2 c3 I3 F3) H → va_D A (wX cI (D.1 99) zz g ad cn In Fn ++ wM cI cB cZ g2 c3 I3 F3) → va_S A s.heap H locs → ∀ ls : Array Slot, lv_has ls 4 [(0, .ref b), (1, .ref (g 0)), (2, .ref (g2 100)), (3, .int (nI i))] → W p l e room_1 s m #[Value.ref b] below meth c H locs (K + 8) (N + 240) (lw_Z below #[Value.ref b] s) (F0 m 2269 ls [])) : W p l e room_1 s m #[Value.ref b] below meth c H locs K N (lw_Z below #[Value.ref b] s) (F0 m 2190 ls []) := by
  obtain ⟨hx, hb, hr, hml, hown, hts, hX, hbl, hlocks, hgv⟩ := id C0
  have S : SF p m c code 4 s #[Value.ref b] RL := ⟨hx, hb, hml, hown, fun w h => hts w (wT_lw h)⟩
  refine lv_aload_n hx hb dL_law_2190 rfl (lvA1 hl) ?_
  refine lv_aload_n hx hb dL_law_2191 rfl (lvA0 hl) ?_
  refine lv_iload_n hx hb dL_law_2192 rfl (lvA3 hl) ?_
  refine lv_iconst (v := 1) hx hb dL_law_2193 kic_1 ?_
  refine lv_iadd hx hb dL_law_2194 ?_
  refine lv_topi (fun y_1 ey_1 => ?_)
  obtain rfl : y_1 = nI (i + 1) := ey_1.trans (nI_add i 1)
  refine va_sld hx hb hX hbl hbA hS (vp_in_nI (by omega) (by omega)) dL_law_2195 ?_
  refine lv_topi (fun y_2 ey_2 => ?_)
  obtain rfl : y_2 = xs (nI (i + 1)).toNatClampNeg := ey_2
  refine vp_callSi (runV_rxa (As := [.int (xs (nI (i + 1)).toNatClampNeg)]) (rest := []) S (q_Xbelow l D cI cB cZ zz qq vv bt g ad cn In Fn (xs (nI (i + 1)).toNatClampNeg) hI.1) kV_RL_250 hK hXS hS (exP hP) 0 xo_0 rfl rfl ⟨Nat.le_of_ble_eq_true rfl, Nat.le_of_ble_eq_true rfl⟩ ⟨(by show K + 0 ≤ 600000; omega), (by show N + 0 ≤ 7302250; omega)⟩ rfl hl.1 rfl (Nat.le_of_ble_eq_true rfl) dL_law_2196) (fun r2 w2 => ?_)
  refine lv_pop hx hb dL_law_2199 rfl ?_
  refine lv_aload_n hx hb dL_law_2200 rfl (lvA2 hl) ?_
  refine lv_aload_n hx hb dL_law_2201 rfl (lvA0 hl) ?_
  refine lv_iload_n hx hb dL_law_2202 rfl (lvA3 hl) ?_
  refine lv_iconst (v := 1) hx hb dL_law_2203 kic_1 ?_
  refine lv_iadd hx hb dL_law_2204 ?_
  refine lv_topi (fun y_4 ey_4 => ?_)
  obtain rfl : y_4 = nI (i + 1) := ey_4.trans (nI_add i 1)
  refine va_sld hx hb hX hbl hbA hS (vp_in_nI (by omega) (by omega)) dL_law_2205 ?_
  refine lv_topi (fun y_5 ey_5 => ?_)
  obtain rfl : y_5 = xs (nI (i + 1)).toNatClampNeg := ey_5
  have hFc := free_all (exDr hD) hS hA
  refine va_calli (runV_a (As := [.int (xs (nI (i + 1)).toNatClampNeg)]) (rest := []) S (q_below l D cI cB cZ g2 c3 I3 F3 (xs (nI (i + 1)).toNatClampNeg) H.size hM.1) kV_RL_253 hK (exPr hP) (exDr hD) 0 rfl rfl rfl ⟨Nat.le_of_ble_eq_true rfl, Nat.le_of_ble_eq_true rfl⟩ ⟨(by show K + 0 ≤ 600000; omega), (by show N + 0 ≤ 7302250; omega)⟩ rfl hl.1 rfl (Nat.le_of_ble_eq_true rfl) dL_law_2206) hS (fun q _ h => hFc q h) hFc (fun r5 u t H1 locs ht hvm w5 hB1 hz1 hk1 hS => ?_)
  obtain ⟨c5, I5, F5⟩ := u
  obtain ⟨hP1, hD1⟩ := hB1
  rw [ht] at hP1
  obtain ⟨hP, hD⟩ := exjoin hP hD hk1 hFc hP1 hD1
  generalize H1 = H at hP hS ⊢
  obtain ⟨hM, hd5, hf5⟩ := imm_below hM w5
  have hR := RR.fm hR hd5 hf5 (by decide) (by decide)
  refine lv_pop hx hb dL_law_2209 rfl ?_
  refine lv_goto (tgt := 2269) hx hb dL_law_2210 rfl ?_
  refine W.widen (k := K + 8) (n := N + 240) (by omega) (by omega) ?_
  exact kk _ _ _ _ _ _ _ _ _ hI hM hR hP hD hS ls hl
set_option maxRecDepth 100000 in
set_option maxHeartbeats 4000000 in
theorem lawc_57 {p : Program} {l : Launch} {e : Env} {s : State} {m : MethodId} {below : List Frame} {meth : Method} {c : Code} {b L : Nat} {xs : Nat → Int32} (C0 : lw_At p s m meth c b L xs) (hLN : L ≤ 3584) {A : Nat → Prop} (hA : ∀ q : Nat, s.heap.size ≤ q → A q) (hbA : ¬ A b) {D : va_G} {cI cB cZ : ClassId} {zz qq vv : Nat} {bt : Nat → Int32} {g g2 : Nat → Nat} (hK : KK D cI cB cZ s) (hXS : XS D zz qq vv bt A s s.heap) {ad : Nat → Nat → Nat} {cn : Nat → Nat} {In : Nat → Int32} {Fn : Nat → Nat → Int32} {c3 : Nat → Nat} {I3 : Nat → Int32} {F3 : Nat → Nat → Int32} (hI : IX ad cn Fn) (hM : IMM c3 F3) (hR : RR cn Fn c3 F3) {H : Heap} {locs : List Loc} (hP : va_P D vwCl (wX cI (D.1 99) zz g ad cn In Fn ++ wM cI cB cZ g2 c3 I3 F3) H) (hD : va_D A (wX cI (D.1 99) zz g ad cn In Fn ++ wM cI cB cZ g2 c3 I3 F3)) (hS : va_S A s.heap H locs) {K N i : Nat} (hi : i + 7 ≤ L) (hKN : K + 8 ≤ 600000 ∧ N + 240 ≤ 7302250) {ls : Array Slot} (hl : lv_has ls 4 [(0, .ref b), (1, .ref (g 0)), (2, .ref (g2 100)), (3, .int (nI i))]) (kk : ∀ (ad : Nat → Nat → Nat) (cn : Nat → Nat) (In : Nat → Int32) (Fn : Nat → Nat → Int32) (c3 : Nat → Nat) (I3 : Nat → Int32) (F3 : Nat → Nat → Int32) (H : Heap) (locs : List Loc), IX ad cn Fn → IMM c3 F3 → RR cn Fn c3 F3 → va_P D vwCl (wX cI (D.1 99) zz g ad cn In Fn ++ wM cI cB cZ g2 c3 I3 F3) H → va_D A (wX cI (D.1 99) zz g ad cn In Fn ++ wM cI cB cZ g2 c3 I3 F3) → va_S A s.heap H locs → ∀ ls : Array Slot, lv_has ls 4 [(0, .ref b), (1, .ref (g 0)), (2, .ref (g2 100)), (3, .int (nI i))] → W p l e room_1 s m #[Value.ref b] below meth c H locs (K + 8) (N + 240) (lw_Z below #[Value.ref b] s) (F0 m 2269 ls [])) : W p l e room_1 s m #[Value.ref b] below meth c H locs K N (lw_Z below #[Value.ref b] s) (F0 m 2213 ls []) := by
  obtain ⟨hx, hb, hr, hml, hown, hts, hX, hbl, hlocks, hgv⟩ := id C0
  have S : SF p m c code 4 s #[Value.ref b] RL := ⟨hx, hb, hml, hown, fun w h => hts w (wT_lw h)⟩
  refine lv_aload_n hx hb dL_law_2213 rfl (lvA1 hl) ?_
  refine lv_aload_n hx hb dL_law_2214 rfl (lvA0 hl) ?_
  refine lv_iload_n hx hb dL_law_2215 rfl (lvA3 hl) ?_
  refine lv_iconst (v := 1) hx hb dL_law_2216 kic_1 ?_
  refine lv_iadd hx hb dL_law_2217 ?_
  refine lv_topi (fun y_1 ey_1 => ?_)
  obtain rfl : y_1 = nI (i + 1) := ey_1.trans (nI_add i 1)
  refine va_sld hx hb hX hbl hbA hS (vp_in_nI (by omega) (by omega)) dL_law_2218 ?_
  refine lv_topi (fun y_2 ey_2 => ?_)
  obtain rfl : y_2 = xs (nI (i + 1)).toNatClampNeg := ey_2
  refine lv_aload_n hx hb dL_law_2219 rfl (lvA0 hl) ?_
  refine lv_iload_n hx hb dL_law_2220 rfl (lvA3 hl) ?_
  refine lv_iconst (v := 2) hx hb dL_law_2221 kic_2 ?_
  refine lv_iadd hx hb dL_law_2222 ?_
  refine lv_topi (fun y_3 ey_3 => ?_)
  obtain rfl : y_3 = nI (i + 2) := ey_3.trans (nI_add i 2)
  refine va_sld hx hb hX hbl hbA hS (vp_in_nI (by omega) (by omega)) dL_law_2223 ?_
  refine lv_topi (fun y_4 ey_4 => ?_)
  obtain rfl : y_4 = xs (nI (i + 2)).toNatClampNeg := ey_4
  have hFc := free_all (exD hD) hS hA
  refine va_calli (runV_xa (As := [.int (xs (nI (i + 1)).toNatClampNeg), .int (xs (nI (i + 2)).toNatClampNeg)]) (rest := []) S (q_Xcheck l D cI cB cZ zz qq vv bt g ad cn In Fn (xs (nI (i + 1)).toNatClampNeg) (xs (nI (i + 2)).toNatClampNeg) H.size hI.1) kV_RL_254 hK hXS hS hFc (exP hP) (exD hD) 0 xo_0 rfl rfl ⟨Nat.le_of_ble_eq_true rfl, Nat.le_of_ble_eq_true rfl⟩ ⟨(by show K + 0 ≤ 600000; omega), (by show N + 0 ≤ 7302250; omega)⟩ rfl hl.1 rfl (Nat.le_of_ble_eq_true rfl) dL_law_2224) hS (fun q _ h => hFc q h) hFc (fun r4 u t H1 locs ht hvm w4 hB1 hz1 hk1 hS => ?_)
  obtain ⟨c4, I4, F4⟩ := u
  obtain ⟨hP1, hD1⟩ := hB1
  rw [ht] at hP1
  obtain ⟨hP, hD⟩ := exjoinL hP hD hk1 hFc hP1 hD1
  generalize H1 = H at hP hS ⊢
  have hd4 := w4.1.1
  have hf4 := w4.1.2.2
  have hI := IX.fr hI w4.1 w4.2.1 (by decide) (by decide)
  have hR := RR.fx hR hd4 hf4 (by decide) (by decide)
  refine lv_pop hx hb dL_law_2227 rfl ?_
  refine lv_aload_n hx hb dL_law_2228 rfl (lvA2 hl) ?_
  refine lv_aload_n hx hb dL_law_2229 rfl (lvA0 hl) ?_
  refine lv_iload_n hx hb dL_law_2230 rfl (lvA3 hl) ?_
  refine lv_iconst (v := 1) hx hb dL_law_2231 kic_1 ?_
  refine lv_iadd hx hb dL_law_2232 ?_
  refine lv_topi (fun y_6 ey_6 => ?_)
  obtain rfl : y_6 = nI (i + 1) := ey_6.trans (nI_add i 1)
  refine va_sld hx hb hX hbl hbA hS (vp_in_nI (by omega) (by omega)) dL_law_2233 ?_
  refine lv_topi (fun y_7 ey_7 => ?_)
  obtain rfl : y_7 = xs (nI (i + 1)).toNatClampNeg := ey_7
  refine lv_aload_n hx hb dL_law_2234 rfl (lvA0 hl) ?_
  refine lv_iload_n hx hb dL_law_2235 rfl (lvA3 hl) ?_
  refine lv_iconst (v := 2) hx hb dL_law_2236 kic_2 ?_
  refine lv_iadd hx hb dL_law_2237 ?_
  refine lv_topi (fun y_8 ey_8 => ?_)
  obtain rfl : y_8 = nI (i + 2) := ey_8.trans (nI_add i 2)
  refine va_sld hx hb hX hbl hbA hS (vp_in_nI (by omega) (by omega)) dL_law_2238 ?_
  refine lv_topi (fun y_9 ey_9 => ?_)
  obtain rfl : y_9 = xs (nI (i + 2)).toNatClampNeg := ey_9
  have hFc := free_all (exDr hD) hS hA
  refine va_calli (runV_a (As := [.int (xs (nI (i + 1)).toNatClampNeg), .int (xs (nI (i + 2)).toNatClampNeg)]) (rest := []) S (q_check8 l D cI cB cZ g2 c3 I3 F3 (xs (nI (i + 1)).toNatClampNeg) (xs (nI (i + 2)).toNatClampNeg) H.size hM.1 hM.2) kV_RL_257 hK (exPr hP) (exDr hD) 0 rfl rfl rfl ⟨Nat.le_of_ble_eq_true rfl, Nat.le_of_ble_eq_true rfl⟩ ⟨(by show K + 0 ≤ 600000; omega), (by show N + 0 ≤ 7302250; omega)⟩ rfl hl.1 rfl (Nat.le_of_ble_eq_true rfl) dL_law_2239) hS (fun q _ h => hFc q h) hFc (fun r9 u t H1 locs ht hvm w9 hB1 hz1 hk1 hS => ?_)
  obtain ⟨c9, I9, F9⟩ := u
  obtain ⟨hP1, hD1⟩ := hB1
  rw [ht] at hP1
  obtain ⟨hP, hD⟩ := exjoin hP hD hk1 hFc hP1 hD1
  generalize H1 = H at hP hS ⊢
  obtain ⟨hM, hd9, hf9⟩ := imm_check8 hM w9
  have hR := RR.fm hR hd9 hf9 (by decide) (by decide)
  refine lv_pop hx hb dL_law_2242 rfl ?_
  refine lv_goto (tgt := 2269) hx hb dL_law_2243 rfl ?_
  refine W.widen (k := K + 8) (n := N + 240) (by omega) (by omega) ?_
  exact kk _ _ _ _ _ _ _ _ _ hI hM hR hP hD hS ls hl
set_option maxRecDepth 100000 in
set_option maxHeartbeats 4000000 in
theorem lawc_58 {p : Program} {l : Launch} {e : Env} {s : State} {m : MethodId} {below : List Frame} {meth : Method} {c : Code} {b L : Nat} {xs : Nat → Int32} (C0 : lw_At p s m meth c b L xs) (hLN : L ≤ 3584) {A : Nat → Prop} (hA : ∀ q : Nat, s.heap.size ≤ q → A q) (hbA : ¬ A b) {D : va_G} {cI cB cZ : ClassId} {zz qq vv : Nat} {bt : Nat → Int32} {g g2 : Nat → Nat} (hK : KK D cI cB cZ s) (hXS : XS D zz qq vv bt A s s.heap) {ad : Nat → Nat → Nat} {cn : Nat → Nat} {In : Nat → Int32} {Fn : Nat → Nat → Int32} {c3 : Nat → Nat} {I3 : Nat → Int32} {F3 : Nat → Nat → Int32} (hI : IX ad cn Fn) (hM : IMM c3 F3) (hR : RR cn Fn c3 F3) {H : Heap} {locs : List Loc} (hP : va_P D vwCl (wX cI (D.1 99) zz g ad cn In Fn ++ wM cI cB cZ g2 c3 I3 F3) H) (hD : va_D A (wX cI (D.1 99) zz g ad cn In Fn ++ wM cI cB cZ g2 c3 I3 F3)) (hS : va_S A s.heap H locs) {K N i : Nat} (hi : i + 7 ≤ L) (hKN : K + 8 ≤ 600000 ∧ N + 240 ≤ 7302250) {ls : Array Slot} (hl : lv_has ls 4 [(0, .ref b), (1, .ref (g 0)), (2, .ref (g2 100)), (3, .int (nI i))]) (kk : ∀ (ad : Nat → Nat → Nat) (cn : Nat → Nat) (In : Nat → Int32) (Fn : Nat → Nat → Int32) (c3 : Nat → Nat) (I3 : Nat → Int32) (F3 : Nat → Nat → Int32) (H : Heap) (locs : List Loc), IX ad cn Fn → IMM c3 F3 → RR cn Fn c3 F3 → va_P D vwCl (wX cI (D.1 99) zz g ad cn In Fn ++ wM cI cB cZ g2 c3 I3 F3) H → va_D A (wX cI (D.1 99) zz g ad cn In Fn ++ wM cI cB cZ g2 c3 I3 F3) → va_S A s.heap H locs → ∀ ls : Array Slot, lv_has ls 4 [(0, .ref b), (1, .ref (g 0)), (2, .ref (g2 100)), (3, .int (nI i))] → W p l e room_1 s m #[Value.ref b] below meth c H locs (K + 8) (N + 240) (lw_Z below #[Value.ref b] s) (F0 m 2269 ls [])) : W p l e room_1 s m #[Value.ref b] below meth c H locs K N (lw_Z below #[Value.ref b] s) (F0 m 2246 ls []) := by
  obtain ⟨hx, hb, hr, hml, hown, hts, hX, hbl, hlocks, hgv⟩ := id C0
  have S : SF p m c code 4 s #[Value.ref b] RL := ⟨hx, hb, hml, hown, fun w h => hts w (wT_lw h)⟩
  refine lv_aload_n hx hb dL_law_2246 rfl (lvA1 hl) ?_
  refine lv_aload_n hx hb dL_law_2247 rfl (lvA0 hl) ?_
  refine lv_iload_n hx hb dL_law_2248 rfl (lvA3 hl) ?_
  refine lv_iconst (v := 1) hx hb dL_law_2249 kic_1 ?_
  refine lv_iadd hx hb dL_law_2250 ?_
  refine lv_topi (fun y_1 ey_1 => ?_)
  obtain rfl : y_1 = nI (i + 1) := ey_1.trans (nI_add i 1)
  refine va_sld hx hb hX hbl hbA hS (vp_in_nI (by omega) (by omega)) dL_law_2251 ?_
  refine lv_topi (fun y_2 ey_2 => ?_)
  obtain rfl : y_2 = xs (nI (i + 1)).toNatClampNeg := ey_2
  refine vp_callSi (runV_rxa (As := [.int (xs (nI (i + 1)).toNatClampNeg)]) (rest := []) S (q_Xcount l D cI cB cZ zz qq vv bt g ad cn In Fn (xs (nI (i + 1)).toNatClampNeg) hI.1 hI.2.1) kV_RL_258 hK hXS hS (exP hP) 0 xo_0 rfl rfl ⟨Nat.le_of_ble_eq_true rfl, Nat.le_of_ble_eq_true rfl⟩ ⟨(by show K + 0 ≤ 600000; omega), (by show N + 0 ≤ 7302250; omega)⟩ rfl hl.1 rfl (Nat.le_of_ble_eq_true rfl) dL_law_2252) (fun r2 w2 => ?_)
  refine lv_pop hx hb dL_law_2255 rfl ?_
  refine lv_aload_n hx hb dL_law_2256 rfl (lvA2 hl) ?_
  refine lv_aload_n hx hb dL_law_2257 rfl (lvA0 hl) ?_
  refine lv_iload_n hx hb dL_law_2258 rfl (lvA3 hl) ?_
  refine lv_iconst (v := 1) hx hb dL_law_2259 kic_1 ?_
  refine lv_iadd hx hb dL_law_2260 ?_
  refine lv_topi (fun y_4 ey_4 => ?_)
  obtain rfl : y_4 = nI (i + 1) := ey_4.trans (nI_add i 1)
  refine va_sld hx hb hX hbl hbA hS (vp_in_nI (by omega) (by omega)) dL_law_2261 ?_
  refine lv_topi (fun y_5 ey_5 => ?_)
  obtain rfl : y_5 = xs (nI (i + 1)).toNatClampNeg := ey_5
  refine vp_callSi (runV_ra (As := [.int (xs (nI (i + 1)).toNatClampNeg)]) (rest := []) S (q_count l D cI cB cZ g2 c3 I3 F3 (xs (nI (i + 1)).toNatClampNeg) hM.1) kV_RL_261 hK (exPr hP) 0 rfl rfl rfl ⟨Nat.le_of_ble_eq_true rfl, Nat.le_of_ble_eq_true rfl⟩ ⟨(by show K + 0 ≤ 600000; omega), (by show N + 0 ≤ 7302250; omega)⟩ rfl hl.1 rfl (Nat.le_of_ble_eq_true rfl) dL_law_2262) (fun r5 w5 => ?_)
  refine lv_pop hx hb dL_law_2265 rfl ?_
  refine lv_goto (tgt := 2269) hx hb dL_law_2266 rfl ?_
  refine W.widen (k := K + 8) (n := N + 240) (by omega) (by omega) ?_
  exact kk _ _ _ _ _ _ _ _ _ hI hM hR hP hD hS ls hl
