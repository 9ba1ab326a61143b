set_option maxRecDepth 100000 in
theorem kV_RL_144 : CalV RL 144 yX11_first cX11_first 4 (some .int) 2 := ⟨⟨wT_tab 1211 rfl rfl, wT_tab 1212 rfl rfl, wT_tab 1213 rfl rfl, wT_tab 1 rfl rfl, wT_tab 1214 rfl rfl⟩, ⟨by decide, by decide, by decide +kernel⟩⟩
set_option maxRecDepth 100000 in
theorem kV_RL_147 : CalV RL 147 yX12_first cX12_first 4 (some .int) 2 := ⟨⟨wT_tab 2042 rfl rfl, wT_tab 2043 rfl rfl, wT_tab 2044 rfl rfl, wT_tab 13 rfl rfl, wT_tab 2045 rfl rfl⟩, ⟨by decide, by decide, by decide +kernel⟩⟩
set_option maxRecDepth 100000 in
theorem kV_RL_148 : CalV RL 148 yX11_street cX11_street 4 (some .boolean) 2 := ⟨⟨wT_tab 791 rfl rfl, wT_tab 792 rfl rfl, wT_tab 793 rfl rfl, wT_tab 1 rfl rfl, wT_tab 794 rfl rfl⟩, ⟨by decide, by decide, by decide +kernel⟩⟩
set_option maxRecDepth 100000 in
theorem kV_RL_151 : CalV RL 151 yX12_street cX12_street 3 (some .boolean) 2 := ⟨⟨wT_tab 1769 rfl rfl, wT_tab 1770 rfl rfl, wT_tab 1771 rfl rfl, wT_tab 13 rfl rfl, wT_tab 1772 rfl rfl⟩, ⟨by decide, by decide, by decide +kernel⟩⟩
set_option maxRecDepth 100000 in
theorem kV_RL_152 : CalV RL 152 yX11_streets cX11_streets 10 (some .long) 2 := ⟨⟨wT_tab 795 rfl rfl, wT_tab 796 rfl rfl, wT_tab 797 rfl rfl, wT_tab 1 rfl rfl, wT_tab 798 rfl rfl⟩, ⟨by decide, by decide, by decide +kernel⟩⟩
set_option maxRecDepth 100000 in
theorem kV_RL_155 : CalV RL 155 yX12_streets cX12_streets 6 (some .long) 2 := ⟨⟨wT_tab 1773 rfl rfl, wT_tab 1774 rfl rfl, wT_tab 1775 rfl rfl, wT_tab 13 rfl rfl, wT_tab 1776 rfl rfl⟩, ⟨by decide, by decide, by decide +kernel⟩⟩
set_option maxRecDepth 100000 in
theorem kV_RL_156 : CalV RL 156 yX11_cheat cX11_cheat 10 (some .long) 3 := ⟨⟨wT_tab 799 rfl rfl, wT_tab 800 rfl rfl, wT_tab 801 rfl rfl, wT_tab 1 rfl rfl, wT_tab 802 rfl rfl⟩, ⟨by decide, by decide, by decide +kernel⟩⟩
set_option maxRecDepth 100000 in
theorem kV_RL_160 : CalV RL 160 yX12_cheat cX12_cheat 9 (some .long) 3 := ⟨⟨wT_tab 1777 rfl rfl, wT_tab 1778 rfl rfl, wT_tab 1779 rfl rfl, wT_tab 13 rfl rfl, wT_tab 1780 rfl rfl⟩, ⟨by decide, by decide, by decide +kernel⟩⟩
set_option maxRecDepth 100000 in
theorem kV_RL_161 : CalV RL 161 yX11_asIf cX11_asIf 4 (some .int) 2 := ⟨⟨wT_tab 773 rfl rfl, wT_tab 774 rfl rfl, wT_tab 775 rfl rfl, wT_tab 1 rfl rfl, wT_tab 776 rfl rfl⟩, ⟨by decide, by decide, by decide +kernel⟩⟩
set_option maxRecDepth 100000 in
theorem kV_RL_164 : CalV RL 164 yX12_asIf cX12_asIf 5 (some .int) 2 := ⟨⟨wT_tab 1745 rfl rfl, wT_tab 1746 rfl rfl, wT_tab 1747 rfl rfl, wT_tab 13 rfl rfl, wT_tab 1748 rfl rfl⟩, ⟨by decide, by decide, by decide +kernel⟩⟩
set_option maxRecDepth 100000 in
theorem kV_RL_165 : CalV RL 165 yX11_lorry cX11_lorry 2 (some .int) 1 := ⟨⟨wT_tab 885 rfl rfl, wT_tab 886 rfl rfl, wT_tab 887 rfl rfl, wT_tab 1 rfl rfl, wT_tab 888 rfl rfl⟩, ⟨by decide, by decide, by decide +kernel⟩⟩
set_option maxRecDepth 100000 in
theorem kV_RL_168 : CalV RL 168 yX12_lorry cX12_lorry 2 (some .int) 1 := ⟨⟨wT_tab 1821 rfl rfl, wT_tab 1822 rfl rfl, wT_tab 1823 rfl rfl, wT_tab 13 rfl rfl, wT_tab 1824 rfl rfl⟩, ⟨by decide, by decide, by decide +kernel⟩⟩
set_option maxRecDepth 100000 in
theorem kV_RL_169 : CalV RL 169 yX11_off cX11_off 4 (some .boolean) 3 := ⟨⟨wT_tab 889 rfl rfl, wT_tab 890 rfl rfl, wT_tab 891 rfl rfl, wT_tab 1 rfl rfl, wT_tab 892 rfl rfl⟩, ⟨by decide, by decide, by decide +kernel⟩⟩
set_option maxRecDepth 100000 in
theorem kV_RL_173 : CalV RL 173 yX12_off cX12_off 4 (some .boolean) 3 := ⟨⟨wT_tab 1825 rfl rfl, wT_tab 1826 rfl rfl, wT_tab 1827 rfl rfl, wT_tab 13 rfl rfl, wT_tab 1828 rfl rfl⟩, ⟨by decide, by decide, by decide +kernel⟩⟩
set_option maxRecDepth 100000 in
theorem kV_RL_174 : CalV RL 174 yX11_shared cX11_shared 6 (some .int) 3 := ⟨⟨wT_tab 897 rfl rfl, wT_tab 898 rfl rfl, wT_tab 899 rfl rfl, wT_tab 1 rfl rfl, wT_tab 900 rfl rfl⟩, ⟨by decide, by decide, by decide +kernel⟩⟩
set_option maxRecDepth 100000 in
theorem kV_RL_177 : CalV RL 177 yX12_shared cX12_shared 10 (some .int) 3 := ⟨⟨wT_tab 1829 rfl rfl, wT_tab 1830 rfl rfl, wT_tab 1831 rfl rfl, wT_tab 13 rfl rfl, wT_tab 1832 rfl rfl⟩, ⟨by decide, by decide, by decide +kernel⟩⟩
set_option maxRecDepth 100000 in
theorem kV_RL_178 : CalV RL 178 yX11_nights cX11_nights 8 (some .int) 4 := ⟨⟨wT_tab 877 rfl rfl, wT_tab 878 rfl rfl, wT_tab 879 rfl rfl, wT_tab 1 rfl rfl, wT_tab 880 rfl rfl⟩, ⟨by decide, by decide, by decide +kernel⟩⟩
set_option maxRecDepth 100000 in
theorem kV_RL_181 : CalV RL 181 yX12_nights cX12_nights 7 (some .int) 4 := ⟨⟨wT_tab 1841 rfl rfl, wT_tab 1842 rfl rfl, wT_tab 1843 rfl rfl, wT_tab 13 rfl rfl, wT_tab 1844 rfl rfl⟩, ⟨by decide, by decide, by decide +kernel⟩⟩
set_option maxRecDepth 100000 in
theorem kV_RL_182 : CalV RL 182 yX11_feast cX11_feast 3 (some .boolean) 2 := ⟨⟨wT_tab 1215 rfl rfl, wT_tab 1216 rfl rfl, wT_tab 1217 rfl rfl, wT_tab 1 rfl rfl, wT_tab 1218 rfl rfl⟩, ⟨by decide, by decide, by decide +kernel⟩⟩
set_option maxRecDepth 100000 in
theorem kV_RL_185 : CalV RL 185 yX12_feast cX12_feast 3 (some .boolean) 2 := ⟨⟨wT_tab 1781 rfl rfl, wT_tab 1782 rfl rfl, wT_tab 1783 rfl rfl, wT_tab 13 rfl rfl, wT_tab 1784 rfl rfl⟩, ⟨by decide, by decide, by decide +kernel⟩⟩
set_option maxRecDepth 100000 in
theorem kV_RL_186 : CalV RL 186 yX11_feasted cX11_feasted 6 (some .int) 2 := ⟨⟨wT_tab 1219 rfl rfl, wT_tab 1220 rfl rfl, wT_tab 1221 rfl rfl, wT_tab 1 rfl rfl, wT_tab 1222 rfl rfl⟩, ⟨by decide, by decide, by decide +kernel⟩⟩
set_option maxRecDepth 100000 in
theorem kV_RL_189 : CalV RL 189 yX12_feasted cX12_feasted 5 (some .int) 2 := ⟨⟨wT_tab 1785 rfl rfl, wT_tab 1786 rfl rfl, wT_tab 1787 rfl rfl, wT_tab 13 rfl rfl, wT_tab 1788 rfl rfl⟩, ⟨by decide, by decide, by decide +kernel⟩⟩
set_option maxRecDepth 100000 in
theorem kV_RL_190 : CalV RL 190 yX11_drum cX11_drum 1 (some .int) 0 := ⟨⟨wT_tab 1227 rfl rfl, wT_tab 1228 rfl rfl, wT_tab 1229 rfl rfl, wT_tab 1 rfl rfl, wT_tab 1230 rfl rfl⟩, ⟨by decide, by decide, by decide +kernel⟩⟩
set_option maxRecDepth 100000 in
theorem kV_RL_193 : CalV RL 193 yX12_drum cX12_drum 1 (some .int) 0 := ⟨⟨wT_tab 1849 rfl rfl, wT_tab 1850 rfl rfl, wT_tab 1851 rfl rfl, wT_tab 13 rfl rfl, wT_tab 1852 rfl rfl⟩, ⟨by decide, by decide, by decide +kernel⟩⟩
set_option maxRecDepth 100000 in
theorem kV_RL_194 : CalV RL 194 yX11_moves cX11_moves 6 (some .boolean) 3 := ⟨⟨wT_tab 1231 rfl rfl, wT_tab 1232 rfl rfl, wT_tab 1233 rfl rfl, wT_tab 1 rfl rfl, wT_tab 1234 rfl rfl⟩, ⟨by decide, by decide, by decide +kernel⟩⟩
set_option maxRecDepth 100000 in
theorem kV_RL_197 : CalV RL 197 yX12_moves cX12_moves 5 (some .boolean) 3 := ⟨⟨wT_tab 1853 rfl rfl, wT_tab 1854 rfl rfl, wT_tab 1855 rfl rfl, wT_tab 13 rfl rfl, wT_tab 1856 rfl rfl⟩, ⟨by decide, by decide, by decide +kernel⟩⟩
set_option maxRecDepth 100000 in
theorem kV_RL_198 : CalV RL 198 yX11_stood cX11_stood 4 (some .int) 2 := ⟨⟨wT_tab 1258 rfl rfl, wT_tab 1259 rfl rfl, wT_tab 1260 rfl rfl, wT_tab 1 rfl rfl, wT_tab 1261 rfl rfl⟩, ⟨by decide, by decide, by decide +kernel⟩⟩
set_option maxRecDepth 100000 in
theorem kV_RL_201 : CalV RL 201 yX12_stood cX12_stood 4 (some .int) 2 := ⟨⟨wT_tab 1865 rfl rfl, wT_tab 1866 rfl rfl, wT_tab 1867 rfl rfl, wT_tab 13 rfl rfl, wT_tab 1868 rfl rfl⟩, ⟨by decide, by decide, by decide +kernel⟩⟩
set_option maxRecDepth 100000 in
theorem kV_RL_202 : CalV RL 202 yX11_stale cX11_stale 6 (some .int) 1 := ⟨⟨wT_tab 1262 rfl rfl, wT_tab 1263 rfl rfl, wT_tab 1264 rfl rfl, wT_tab 1 rfl rfl, wT_tab 1265 rfl rfl⟩, ⟨by decide, by decide, by decide +kernel⟩⟩
set_option maxRecDepth 100000 in
theorem kV_RL_205 : CalV RL 205 yX12_stale cX12_stale 5 (some .int) 1 := ⟨⟨wT_tab 1869 rfl rfl, wT_tab 1870 rfl rfl, wT_tab 1871 rfl rfl, wT_tab 13 rfl rfl, wT_tab 1872 rfl rfl⟩, ⟨by decide, by decide, by decide +kernel⟩⟩
theorem dL_law_1307 : decode code 1307 = .ok (.aload_n 1, 1) := by decide +kernel
theorem dL_law_1308 : decode code 1308 = .ok (.aload_n 0, 1) := by decide +kernel
theorem dL_law_1309 : decode code 1309 = .ok (.iload_n 3, 1) := by decide +kernel
theorem dL_law_1310 : decode code 1310 = .ok (.iconst 1, 1) := by decide +kernel
theorem dL_law_1311 : decode code 1311 = .ok (.iadd, 1) := by decide +kernel
theorem dL_law_1312 : decode code 1312 = .ok (.iaload, 1) := by decide +kernel
theorem dL_law_1313 : decode code 1313 = .ok (.aload_n 0, 1) := by decide +kernel
theorem dL_law_1314 : decode code 1314 = .ok (.iload_n 3, 1) := by decide +kernel
theorem dL_law_1315 : decode code 1315 = .ok (.iconst 2, 1) := by decide +kernel
theorem dL_law_1316 : decode code 1316 = .ok (.iadd, 1) := by decide +kernel
theorem dL_law_1317 : decode code 1317 = .ok (.iaload, 1) := by decide +kernel
theorem dL_law_1318 : decode code 1318 = .ok (.invokevirtual 144, 3) := by decide +kernel
theorem dL_law_1321 : decode code 1321 = .ok (.aload_n 2, 1) := by decide +kernel
theorem dL_law_1322 : decode code 1322 = .ok (.aload_n 0, 1) := by decide +kernel
theorem dL_law_1323 : decode code 1323 = .ok (.iload_n 3, 1) := by decide +kernel
theorem dL_law_1324 : decode code 1324 = .ok (.iconst 1, 1) := by decide +kernel
theorem dL_law_1325 : decode code 1325 = .ok (.iadd, 1) := by decide +kernel
theorem dL_law_1326 : decode code 1326 = .ok (.iaload, 1) := by decide +kernel
theorem dL_law_1327 : decode code 1327 = .ok (.aload_n 0, 1) := by decide +kernel
theorem dL_law_1328 : decode code 1328 = .ok (.iload_n 3, 1) := by decide +kernel
theorem dL_law_1329 : decode code 1329 = .ok (.iconst 2, 1) := by decide +kernel
theorem dL_law_1330 : decode code 1330 = .ok (.iadd, 1) := by decide +kernel
theorem dL_law_1331 : decode code 1331 = .ok (.iaload, 1) := by decide +kernel
theorem dL_law_1332 : decode code 1332 = .ok (.invokevirtual 147, 3) := by decide +kernel
theorem dL_law_1335 : decode code 1335 = .ok (.if_icmp .eq 937, 3) := by decide +kernel
theorem dL_law_1340 : decode code 1340 = .ok (.aload_n 1, 1) := by decide +kernel
theorem dL_law_1341 : decode code 1341 = .ok (.aload_n 0, 1) := by decide +kernel
theorem dL_law_1342 : decode code 1342 = .ok (.iload_n 3, 1) := by decide +kernel
theorem dL_law_1343 : decode code 1343 = .ok (.iconst 1, 1) := by decide +kernel
theorem dL_law_1344 : decode code 1344 = .ok (.iadd, 1) := by decide +kernel
theorem dL_law_1345 : decode code 1345 = .ok (.iaload, 1) := by decide +kernel
theorem dL_law_1346 : decode code 1346 = .ok (.aload_n 0, 1) := by decide +kernel
theorem dL_law_1347 : decode code 1347 = .ok (.iload_n 3, 1) := by decide +kernel
theorem dL_law_1348 : decode code 1348 = .ok (.iconst 2, 1) := by decide +kernel
theorem dL_law_1349 : decode code 1349 = .ok (.iadd, 1) := by decide +kernel
theorem dL_law_1350 : decode code 1350 = .ok (.iaload, 1) := by decide +kernel
theorem dL_law_1351 : decode code 1351 = .ok (.invokevirtual 148, 3) := by decide +kernel
theorem dL_law_1354 : decode code 1354 = .ok (.aload_n 2, 1) := by decide +kernel
theorem dL_law_1355 : decode code 1355 = .ok (.aload_n 0, 1) := by decide +kernel
theorem dL_law_1356 : decode code 1356 = .ok (.iload_n 3, 1) := by decide +kernel
theorem dL_law_1357 : decode code 1357 = .ok (.iconst 1, 1) := by decide +kernel
theorem dL_law_1358 : decode code 1358 = .ok (.iadd, 1) := by decide +kernel
theorem dL_law_1359 : decode code 1359 = .ok (.iaload, 1) := by decide +kernel
theorem dL_law_1360 : decode code 1360 = .ok (.aload_n 0, 1) := by decide +kernel
theorem dL_law_1361 : decode code 1361 = .ok (.iload_n 3, 1) := by decide +kernel
theorem dL_law_1362 : decode code 1362 = .ok (.iconst 2, 1) := by decide +kernel
theorem dL_law_1363 : decode code 1363 = .ok (.iadd, 1) := by decide +kernel
theorem dL_law_1364 : decode code 1364 = .ok (.iaload, 1) := by decide +kernel
theorem dL_law_1365 : decode code 1365 = .ok (.invokevirtual 151, 3) := by decide +kernel
theorem dL_law_1368 : decode code 1368 = .ok (.if_icmp .eq 904, 3) := by decide +kernel
theorem dL_law_1373 : decode code 1373 = .ok (.aload_n 1, 1) := by decide +kernel
theorem dL_law_1374 : decode code 1374 = .ok (.aload_n 0, 1) := by decide +kernel
theorem dL_law_1375 : decode code 1375 = .ok (.iload_n 3, 1) := by decide +kernel
theorem dL_law_1376 : decode code 1376 = .ok (.iconst 1, 1) := by decide +kernel
theorem dL_law_1377 : decode code 1377 = .ok (.iadd, 1) := by decide +kernel
theorem dL_law_1378 : decode code 1378 = .ok (.iaload, 1) := by decide +kernel
theorem dL_law_1379 : decode code 1379 = .ok (.aload_n 0, 1) := by decide +kernel
theorem dL_law_1380 : decode code 1380 = .ok (.iload_n 3, 1) := by decide +kernel
theorem dL_law_1381 : decode code 1381 = .ok (.iconst 2, 1) := by decide +kernel
theorem dL_law_1382 : decode code 1382 = .ok (.iadd, 1) := by decide +kernel
theorem dL_law_1383 : decode code 1383 = .ok (.iaload, 1) := by decide +kernel
theorem dL_law_1384 : decode code 1384 = .ok (.invokevirtual 152, 3) := by decide +kernel
theorem dL_law_1387 : decode code 1387 = .ok (.aload_n 2, 1) := by decide +kernel
theorem dL_law_1388 : decode code 1388 = .ok (.aload_n 0, 1) := by decide +kernel
theorem dL_law_1389 : decode code 1389 = .ok (.iload_n 3, 1) := by decide +kernel
theorem dL_law_1390 : decode code 1390 = .ok (.iconst 1, 1) := by decide +kernel
theorem dL_law_1391 : decode code 1391 = .ok (.iadd, 1) := by decide +kernel
theorem dL_law_1392 : decode code 1392 = .ok (.iaload, 1) := by decide +kernel
theorem dL_law_1393 : decode code 1393 = .ok (.aload_n 0, 1) := by decide +kernel
theorem dL_law_1394 : decode code 1394 = .ok (.iload_n 3, 1) := by decide +kernel
theorem dL_law_1395 : decode code 1395 = .ok (.iconst 2, 1) := by decide +kernel
theorem dL_law_1396 : decode code 1396 = .ok (.iadd, 1) := by decide +kernel
theorem dL_law_1397 : decode code 1397 = .ok (.iaload, 1) := by decide +kernel
theorem dL_law_1398 : decode code 1398 = .ok (.invokevirtual 155, 3) := by decide +kernel
theorem dL_law_1401 : decode code 1401 = .ok (.lcmp, 1) := by decide +kernel
theorem dL_law_1402 : decode code 1402 = .ok (.ifCond .eq 870, 3) := by decide +kernel
theorem dL_law_1407 : decode code 1407 = .ok (.aload_n 1, 1) := by decide +kernel
theorem dL_law_1408 : decode code 1408 = .ok (.aload_n 0, 1) := by decide +kernel
theorem dL_law_1409 : decode code 1409 = .ok (.iload_n 3, 1) := by decide +kernel
theorem dL_law_1410 : decode code 1410 = .ok (.iconst 1, 1) := by decide +kernel
theorem dL_law_1411 : decode code 1411 = .ok (.iadd, 1) := by decide +kernel
theorem dL_law_1412 : decode code 1412 = .ok (.iaload, 1) := by decide +kernel
theorem dL_law_1413 : decode code 1413 = .ok (.aload_n 0, 1) := by decide +kernel
theorem dL_law_1414 : decode code 1414 = .ok (.iload_n 3, 1) := by decide +kernel
theorem dL_law_1415 : decode code 1415 = .ok (.iconst 2, 1) := by decide +kernel
theorem dL_law_1416 : decode code 1416 = .ok (.iadd, 1) := by decide +kernel
theorem dL_law_1417 : decode code 1417 = .ok (.iaload, 1) := by decide +kernel
theorem dL_law_1418 : decode code 1418 = .ok (.aload_n 0, 1) := by decide +kernel
theorem dL_law_1419 : decode code 1419 = .ok (.iload_n 3, 1) := by decide +kernel
theorem dL_law_1420 : decode code 1420 = .ok (.iconst 3, 1) := by decide +kernel
theorem dL_law_1421 : decode code 1421 = .ok (.iadd, 1) := by decide +kernel
theorem dL_law_1422 : decode code 1422 = .ok (.iaload, 1) := by decide +kernel
theorem dL_law_1423 : decode code 1423 = .ok (.invokevirtual 156, 3) := by decide +kernel
theorem dL_law_1426 : decode code 1426 = .ok (.aload_n 2, 1) := by decide +kernel
theorem dL_law_1427 : decode code 1427 = .ok (.aload_n 0, 1) := by decide +kernel
theorem dL_law_1428 : decode code 1428 = .ok (.iload_n 3, 1) := by decide +kernel
theorem dL_law_1429 : decode code 1429 = .ok (.iconst 1, 1) := by decide +kernel
theorem dL_law_1430 : decode code 1430 = .ok (.iadd, 1) := by decide +kernel
theorem dL_law_1431 : decode code 1431 = .ok (.iaload, 1) := by decide +kernel
theorem dL_law_1432 : decode code 1432 = .ok (.aload_n 0, 1) := by decide +kernel
theorem dL_law_1433 : decode code 1433 = .ok (.iload_n 3, 1) := by decide +kernel
theorem dL_law_1434 : decode code 1434 = .ok (.iconst 2, 1) := by decide +kernel
theorem dL_law_1435 : decode code 1435 = .ok (.iadd, 1) := by decide +kernel
theorem dL_law_1436 : decode code 1436 = .ok (.iaload, 1) := by decide +kernel
theorem dL_law_1437 : decode code 1437 = .ok (.aload_n 0, 1) := by decide +kernel
theorem dL_law_1438 : decode code 1438 = .ok (.iload_n 3, 1) := by decide +kernel
theorem dL_law_1439 : decode code 1439 = .ok (.iconst 3, 1) := by decide +kernel
theorem dL_law_1440 : decode code 1440 = .ok (.iadd, 1) := by decide +kernel
theorem dL_law_1441 : decode code 1441 = .ok (.iaload, 1) := by decide +kernel
theorem dL_law_1442 : decode code 1442 = .ok (.invokevirtual 160, 3) := by decide +kernel
theorem dL_law_1445 : decode code 1445 = .ok (.lcmp, 1) := by decide +kernel
theorem dL_law_1446 : decode code 1446 = .ok (.ifCond .eq 826, 3) := by decide +kernel
theorem dL_law_1451 : decode code 1451 = .ok (.aload_n 1, 1) := by decide +kernel
theorem dL_law_1452 : decode code 1452 = .ok (.aload_n 0, 1) := by decide +kernel
theorem dL_law_1453 : decode code 1453 = .ok (.iload_n 3, 1) := by decide +kernel
theorem dL_law_1454 : decode code 1454 = .ok (.iconst 1, 1) := by decide +kernel
theorem dL_law_1455 : decode code 1455 = .ok (.iadd, 1) := by decide +kernel
theorem dL_law_1456 : decode code 1456 = .ok (.iaload, 1) := by decide +kernel
theorem dL_law_1457 : decode code 1457 = .ok (.aload_n 0, 1) := by decide +kernel
theorem dL_law_1458 : decode code 1458 = .ok (.iload_n 3, 1) := by decide +kernel
theorem dL_law_1459 : decode code 1459 = .ok (.iconst 2, 1) := by decide +kernel
theorem dL_law_1460 : decode code 1460 = .ok (.iadd, 1) := by decide +kernel
theorem dL_law_1461 : decode code 1461 = .ok (.iaload, 1) := by decide +kernel
theorem dL_law_1462 : decode code 1462 = .ok (.invokevirtual 161, 3) := by decide +kernel
theorem dL_law_1465 : decode code 1465 = .ok (.aload_n 2, 1) := by decide +kernel
theorem dL_law_1466 : decode code 1466 = .ok (.aload_n 0, 1) := by decide +kernel
theorem dL_law_1467 : decode code 1467 = .ok (.iload_n 3, 1) := by decide +kernel
theorem dL_law_1468 : decode code 1468 = .ok (.iconst 1, 1) := by decide +kernel
theorem dL_law_1469 : decode code 1469 = .ok (.iadd, 1) := by decide +kernel
theorem dL_law_1470 : decode code 1470 = .ok (.iaload, 1) := by decide +kernel
theorem dL_law_1471 : decode code 1471 = .ok (.aload_n 0, 1) := by decide +kernel
theorem dL_law_1472 : decode code 1472 = .ok (.iload_n 3, 1) := by decide +kernel
theorem dL_law_1473 : decode code 1473 = .ok (.iconst 2, 1) := by decide +kernel
theorem dL_law_1474 : decode code 1474 = .ok (.iadd, 1) := by decide +kernel
theorem dL_law_1475 : decode code 1475 = .ok (.iaload, 1) := by decide +kernel
theorem dL_law_1476 : decode code 1476 = .ok (.invokevirtual 164, 3) := by decide +kernel
theorem dL_law_1479 : decode code 1479 = .ok (.if_icmp .eq 793, 3) := by decide +kernel
theorem dL_law_1484 : decode code 1484 = .ok (.aload_n 1, 1) := by decide +kernel
theorem dL_law_1485 : decode code 1485 = .ok (.aload_n 0, 1) := by decide +kernel
theorem dL_law_1486 : decode code 1486 = .ok (.iload_n 3, 1) := by decide +kernel
theorem dL_law_1487 : decode code 1487 = .ok (.iconst 1, 1) := by decide +kernel
theorem dL_law_1488 : decode code 1488 = .ok (.iadd, 1) := by decide +kernel
theorem dL_law_1489 : decode code 1489 = .ok (.iaload, 1) := by decide +kernel
theorem dL_law_1490 : decode code 1490 = .ok (.invokevirtual 165, 3) := by decide +kernel
theorem dL_law_1493 : decode code 1493 = .ok (.aload_n 2, 1) := by decide +kernel
theorem dL_law_1494 : decode code 1494 = .ok (.aload_n 0, 1) := by decide +kernel
theorem dL_law_1495 : decode code 1495 = .ok (.iload_n 3, 1) := by decide +kernel
theorem dL_law_1496 : decode code 1496 = .ok (.iconst 1, 1) := by decide +kernel
theorem dL_law_1497 : decode code 1497 = .ok (.iadd, 1) := by decide +kernel
theorem dL_law_1498 : decode code 1498 = .ok (.iaload, 1) := by decide +kernel
theorem dL_law_1499 : decode code 1499 = .ok (.invokevirtual 168, 3) := by decide +kernel
theorem dL_law_1502 : decode code 1502 = .ok (.if_icmp .eq 770, 3) := by decide +kernel
theorem dL_law_1507 : decode code 1507 = .ok (.aload_n 1, 1) := by decide +kernel
theorem dL_law_1508 : decode code 1508 = .ok (.aload_n 0, 1) := by decide +kernel
theorem dL_law_1509 : decode code 1509 = .ok (.iload_n 3, 1) := by decide +kernel
theorem dL_law_1510 : decode code 1510 = .ok (.iconst 1, 1) := by decide +kernel
theorem dL_law_1511 : decode code 1511 = .ok (.iadd, 1) := by decide +kernel
theorem dL_law_1512 : decode code 1512 = .ok (.iaload, 1) := by decide +kernel
theorem dL_law_1513 : decode code 1513 = .ok (.aload_n 0, 1) := by decide +kernel
theorem dL_law_1514 : decode code 1514 = .ok (.iload_n 3, 1) := by decide +kernel
theorem dL_law_1515 : decode code 1515 = .ok (.iconst 2, 1) := by decide +kernel
theorem dL_law_1516 : decode code 1516 = .ok (.iadd, 1) := by decide +kernel
theorem dL_law_1517 : decode code 1517 = .ok (.iaload, 1) := by decide +kernel
theorem dL_law_1518 : decode code 1518 = .ok (.aload_n 0, 1) := by decide +kernel
theorem dL_law_1519 : decode code 1519 = .ok (.iload_n 3, 1) := by decide +kernel
theorem dL_law_1520 : decode code 1520 = .ok (.iconst 3, 1) := by decide +kernel
theorem dL_law_1521 : decode code 1521 = .ok (.iadd, 1) := by decide +kernel
theorem dL_law_1522 : decode code 1522 = .ok (.iaload, 1) := by decide +kernel
theorem dL_law_1523 : decode code 1523 = .ok (.ifCond .eq 7, 3) := by decide +kernel
theorem dL_law_1530 : decode code 1530 = .ok (.iconst 0, 1) := by decide +kernel
theorem dL_law_1531 : decode code 1531 = .ok (.invokevirtual 169, 3) := by decide +kernel
theorem dL_law_1534 : decode code 1534 = .ok (.aload_n 2, 1) := by decide +kernel
theorem dL_law_1535 : decode code 1535 = .ok (.aload_n 0, 1) := by decide +kernel
theorem dL_law_1536 : decode code 1536 = .ok (.iload_n 3, 1) := by decide +kernel
theorem dL_law_1537 : decode code 1537 = .ok (.iconst 1, 1) := by decide +kernel
theorem dL_law_1538 : decode code 1538 = .ok (.iadd, 1) := by decide +kernel
theorem dL_law_1539 : decode code 1539 = .ok (.iaload, 1) := by decide +kernel
theorem dL_law_1540 : decode code 1540 = .ok (.aload_n 0, 1) := by decide +kernel
theorem dL_law_1541 : decode code 1541 = .ok (.iload_n 3, 1) := by decide +kernel
theorem dL_law_1542 : decode code 1542 = .ok (.iconst 2, 1) := by decide +kernel
theorem dL_law_1543 : decode code 1543 = .ok (.iadd, 1) := by decide +kernel
theorem dL_law_1544 : decode code 1544 = .ok (.iaload, 1) := by decide +kernel
theorem dL_law_1545 : decode code 1545 = .ok (.aload_n 0, 1) := by decide +kernel
theorem dL_law_1546 : decode code 1546 = .ok (.iload_n 3, 1) := by decide +kernel
theorem dL_law_1547 : decode code 1547 = .ok (.iconst 3, 1) := by decide +kernel
theorem dL_law_1548 : decode code 1548 = .ok (.iadd, 1) := by decide +kernel
theorem dL_law_1549 : decode code 1549 = .ok (.iaload, 1) := by decide +kernel
theorem dL_law_1550 : decode code 1550 = .ok (.ifCond .eq 7, 3) := by decide +kernel
theorem dL_law_1557 : decode code 1557 = .ok (.iconst 0, 1) := by decide +kernel
theorem dL_law_1558 : decode code 1558 = .ok (.invokevirtual 173, 3) := by decide +kernel
theorem dL_law_1561 : decode code 1561 = .ok (.if_icmp .eq 711, 3) := by decide +kernel
theorem dL_law_1526 : decode code 1526 = .ok (.iconst 1, 1) := by decide +kernel
theorem dL_law_1527 : decode code 1527 = .ok (.goto 4, 3) := by decide +kernel
theorem dL_law_1553 : decode code 1553 = .ok (.iconst 1, 1) := by decide +kernel
theorem dL_law_1554 : decode code 1554 = .ok (.goto 4, 3) := by decide +kernel
theorem dL_law_1566 : decode code 1566 = .ok (.aload_n 1, 1) := by decide +kernel
theorem dL_law_1567 : decode code 1567 = .ok (.aload_n 0, 1) := by decide +kernel
theorem dL_law_1568 : decode code 1568 = .ok (.iload_n 3, 1) := by decide +kernel
theorem dL_law_1569 : decode code 1569 = .ok (.iconst 1, 1) := by decide +kernel
theorem dL_law_1570 : decode code 1570 = .ok (.iadd, 1) := by decide +kernel
theorem dL_law_1571 : decode code 1571 = .ok (.iaload, 1) := by decide +kernel
theorem dL_law_1572 : decode code 1572 = .ok (.aload_n 0, 1) := by decide +kernel
theorem dL_law_1573 : decode code 1573 = .ok (.iload_n 3, 1) := by decide +kernel
theorem dL_law_1574 : decode code 1574 = .ok (.iconst 2, 1) := by decide +kernel
theorem dL_law_1575 : decode code 1575 = .ok (.iadd, 1) := by decide +kernel
theorem dL_law_1576 : decode code 1576 = .ok (.iaload, 1) := by decide +kernel
theorem dL_law_1577 : decode code 1577 = .ok (.aload_n 0, 1) := by decide +kernel
theorem dL_law_1578 : decode code 1578 = .ok (.iload_n 3, 1) := by decide +kernel
theorem dL_law_1579 : decode code 1579 = .ok (.iconst 3, 1) := by decide +kernel
theorem dL_law_1580 : decode code 1580 = .ok (.iadd, 1) := by decide +kernel
theorem dL_law_1581 : decode code 1581 = .ok (.iaload, 1) := by decide +kernel
theorem dL_law_1582 : decode code 1582 = .ok (.invokevirtual 174, 3) := by decide +kernel
theorem dL_law_1585 : decode code 1585 = .ok (.aload_n 2, 1) := by decide +kernel
theorem dL_law_1586 : decode code 1586 = .ok (.aload_n 0, 1) := by decide +kernel
theorem dL_law_1587 : decode code 1587 = .ok (.iload_n 3, 1) := by decide +kernel
theorem dL_law_1588 : decode code 1588 = .ok (.iconst 1, 1) := by decide +kernel
theorem dL_law_1589 : decode code 1589 = .ok (.iadd, 1) := by decide +kernel
theorem dL_law_1590 : decode code 1590 = .ok (.iaload, 1) := by decide +kernel
theorem dL_law_1591 : decode code 1591 = .ok (.aload_n 0, 1) := by decide +kernel
theorem dL_law_1592 : decode code 1592 = .ok (.iload_n 3, 1) := by decide +kernel
theorem dL_law_1593 : decode code 1593 = .ok (.iconst 2, 1) := by decide +kernel
theorem dL_law_1594 : decode code 1594 = .ok (.iadd, 1) := by decide +kernel
theorem dL_law_1595 : decode code 1595 = .ok (.iaload, 1) := by decide +kernel
theorem dL_law_1596 : decode code 1596 = .ok (.aload_n 0, 1) := by decide +kernel
theorem dL_law_1597 : decode code 1597 = .ok (.iload_n 3, 1) := by decide +kernel
theorem dL_law_1598 : decode code 1598 = .ok (.iconst 3, 1) := by decide +kernel
theorem dL_law_1599 : decode code 1599 = .ok (.iadd, 1) := by decide +kernel
theorem dL_law_1600 : decode code 1600 = .ok (.iaload, 1) := by decide +kernel
theorem dL_law_1601 : decode code 1601 = .ok (.invokevirtual 177, 3) := by decide +kernel
theorem dL_law_1604 : decode code 1604 = .ok (.if_icmp .eq 668, 3) := by decide +kernel
theorem dL_law_1609 : decode code 1609 = .ok (.aload_n 1, 1) := by decide +kernel
theorem dL_law_1610 : decode code 1610 = .ok (.aload_n 0, 1) := by decide +kernel
theorem dL_law_1611 : decode code 1611 = .ok (.iload_n 3, 1) := by decide +kernel
theorem dL_law_1612 : decode code 1612 = .ok (.iconst 1, 1) := by decide +kernel
theorem dL_law_1613 : decode code 1613 = .ok (.iadd, 1) := by decide +kernel
theorem dL_law_1614 : decode code 1614 = .ok (.iaload, 1) := by decide +kernel
theorem dL_law_1615 : decode code 1615 = .ok (.aload_n 0, 1) := by decide +kernel
theorem dL_law_1616 : decode code 1616 = .ok (.iload_n 3, 1) := by decide +kernel
theorem dL_law_1617 : decode code 1617 = .ok (.iconst 2, 1) := by decide +kernel
theorem dL_law_1618 : decode code 1618 = .ok (.iadd, 1) := by decide +kernel
theorem dL_law_1619 : decode code 1619 = .ok (.iaload, 1) := by decide +kernel
theorem dL_law_1620 : decode code 1620 = .ok (.aload_n 0, 1) := by decide +kernel
theorem dL_law_1621 : decode code 1621 = .ok (.iload_n 3, 1) := by decide +kernel
theorem dL_law_1622 : decode code 1622 = .ok (.iconst 3, 1) := by decide +kernel
theorem dL_law_1623 : decode code 1623 = .ok (.iadd, 1) := by decide +kernel
theorem dL_law_1624 : decode code 1624 = .ok (.iaload, 1) := by decide +kernel
theorem dL_law_1625 : decode code 1625 = .ok (.aload_n 0, 1) := by decide +kernel
theorem dL_law_1626 : decode code 1626 = .ok (.iload_n 3, 1) := by decide +kernel
theorem dL_law_1627 : decode code 1627 = .ok (.iconst 4, 1) := by decide +kernel
theorem dL_law_1628 : decode code 1628 = .ok (.iadd, 1) := by decide +kernel
theorem dL_law_1629 : decode code 1629 = .ok (.iaload, 1) := by decide +kernel
theorem dL_law_1630 : decode code 1630 = .ok (.invokevirtual 178, 3) := by decide +kernel
theorem dL_law_1633 : decode code 1633 = .ok (.aload_n 2, 1) := by decide +kernel
theorem dL_law_1634 : decode code 1634 = .ok (.aload_n 0, 1) := by decide +kernel
theorem dL_law_1635 : decode code 1635 = .ok (.iload_n 3, 1) := by decide +kernel
theorem dL_law_1636 : decode code 1636 = .ok (.iconst 1, 1) := by decide +kernel
theorem dL_law_1637 : decode code 1637 = .ok (.iadd, 1) := by decide +kernel
theorem dL_law_1638 : decode code 1638 = .ok (.iaload, 1) := by decide +kernel
theorem dL_law_1639 : decode code 1639 = .ok (.aload_n 0, 1) := by decide +kernel
theorem dL_law_1640 : decode code 1640 = .ok (.iload_n 3, 1) := by decide +kernel
theorem dL_law_1641 : decode code 1641 = .ok (.iconst 2, 1) := by decide +kernel
theorem dL_law_1642 : decode code 1642 = .ok (.iadd, 1) := by decide +kernel
theorem dL_law_1643 : decode code 1643 = .ok (.iaload, 1) := by decide +kernel
theorem dL_law_1644 : decode code 1644 = .ok (.aload_n 0, 1) := by decide +kernel
theorem dL_law_1645 : decode code 1645 = .ok (.iload_n 3, 1) := by decide +kernel
theorem dL_law_1646 : decode code 1646 = .ok (.iconst 3, 1) := by decide +kernel
theorem dL_law_1647 : decode code 1647 = .ok (.iadd, 1) := by decide +kernel
theorem dL_law_1648 : decode code 1648 = .ok (.iaload, 1) := by decide +kernel
theorem dL_law_1649 : decode code 1649 = .ok (.aload_n 0, 1) := by decide +kernel
theorem dL_law_1650 : decode code 1650 = .ok (.iload_n 3, 1) := by decide +kernel
theorem dL_law_1651 : decode code 1651 = .ok (.iconst 4, 1) := by decide +kernel
theorem dL_law_1652 : decode code 1652 = .ok (.iadd, 1) := by decide +kernel
theorem dL_law_1653 : decode code 1653 = .ok (.iaload, 1) := by decide +kernel
theorem dL_law_1654 : decode code 1654 = .ok (.invokevirtual 181, 3) := by decide +kernel
theorem dL_law_1657 : decode code 1657 = .ok (.if_icmp .eq 615, 3) := by decide +kernel
theorem dL_law_1662 : decode code 1662 = .ok (.aload_n 1, 1) := by decide +kernel
theorem dL_law_1663 : decode code 1663 = .ok (.aload_n 0, 1) := by decide +kernel
theorem dL_law_1664 : decode code 1664 = .ok (.iload_n 3, 1) := by decide +kernel
theorem dL_law_1665 : decode code 1665 = .ok (.iconst 1, 1) := by decide +kernel
theorem dL_law_1666 : decode code 1666 = .ok (.iadd, 1) := by decide +kernel
theorem dL_law_1667 : decode code 1667 = .ok (.iaload, 1) := by decide +kernel
theorem dL_law_1668 : decode code 1668 = .ok (.aload_n 0, 1) := by decide +kernel
theorem dL_law_1669 : decode code 1669 = .ok (.iload_n 3, 1) := by decide +kernel
theorem dL_law_1670 : decode code 1670 = .ok (.iconst 2, 1) := by decide +kernel
theorem dL_law_1671 : decode code 1671 = .ok (.iadd, 1) := by decide +kernel
theorem dL_law_1672 : decode code 1672 = .ok (.iaload, 1) := by decide +kernel
theorem dL_law_1673 : decode code 1673 = .ok (.invokevirtual 182, 3) := by decide +kernel
theorem dL_law_1676 : decode code 1676 = .ok (.aload_n 2, 1) := by decide +kernel
theorem dL_law_1677 : decode code 1677 = .ok (.aload_n 0, 1) := by decide +kernel
theorem dL_law_1678 : decode code 1678 = .ok (.iload_n 3, 1) := by decide +kernel
theorem dL_law_1679 : decode code 1679 = .ok (.iconst 1, 1) := by decide +kernel
theorem dL_law_1680 : decode code 1680 = .ok (.iadd, 1) := by decide +kernel
theorem dL_law_1681 : decode code 1681 = .ok (.iaload, 1) := by decide +kernel
theorem dL_law_1682 : decode code 1682 = .ok (.aload_n 0, 1) := by decide +kernel
theorem dL_law_1683 : decode code 1683 = .ok (.iload_n 3, 1) := by decide +kernel
theorem dL_law_1684 : decode code 1684 = .ok (.iconst 2, 1) := by decide +kernel
theorem dL_law_1685 : decode code 1685 = .ok (.iadd, 1) := by decide +kernel
theorem dL_law_1686 : decode code 1686 = .ok (.iaload, 1) := by decide +kernel
theorem dL_law_1687 : decode code 1687 = .ok (.invokevirtual 185, 3) := by decide +kernel
theorem dL_law_1690 : decode code 1690 = .ok (.if_icmp .eq 582, 3) := by decide +kernel
theorem dL_law_1695 : decode code 1695 = .ok (.aload_n 1, 1) := by decide +kernel
theorem dL_law_1696 : decode code 1696 = .ok (.aload_n 0, 1) := by decide +kernel
theorem dL_law_1697 : decode code 1697 = .ok (.iload_n 3, 1) := by decide +kernel
theorem dL_law_1698 : decode code 1698 = .ok (.iconst 1, 1) := by decide +kernel
theorem dL_law_1699 : decode code 1699 = .ok (.iadd, 1) := by decide +kernel
theorem dL_law_1700 : decode code 1700 = .ok (.iaload, 1) := by decide +kernel
theorem dL_law_1701 : decode code 1701 = .ok (.aload_n 0, 1) := by decide +kernel
theorem dL_law_1702 : decode code 1702 = .ok (.iload_n 3, 1) := by decide +kernel
theorem dL_law_1703 : decode code 1703 = .ok (.iconst 2, 1) := by decide +kernel
theorem dL_law_1704 : decode code 1704 = .ok (.iadd, 1) := by decide +kernel
theorem dL_law_1705 : decode code 1705 = .ok (.iaload, 1) := by decide +kernel
theorem dL_law_1706 : decode code 1706 = .ok (.invokevirtual 186, 3) := by decide +kernel
theorem dL_law_1709 : decode code 1709 = .ok (.aload_n 2, 1) := by decide +kernel
theorem dL_law_1710 : decode code 1710 = .ok (.aload_n 0, 1) := by decide +kernel
theorem dL_law_1711 : decode code 1711 = .ok (.iload_n 3, 1) := by decide +kernel
theorem dL_law_1712 : decode code 1712 = .ok (.iconst 1, 1) := by decide +kernel
theorem dL_law_1713 : decode code 1713 = .ok (.iadd, 1) := by decide +kernel
theorem dL_law_1714 : decode code 1714 = .ok (.iaload, 1) := by decide +kernel
theorem dL_law_1715 : decode code 1715 = .ok (.aload_n 0, 1) := by decide +kernel
theorem dL_law_1716 : decode code 1716 = .ok (.iload_n 3, 1) := by decide +kernel
theorem dL_law_1717 : decode code 1717 = .ok (.iconst 2, 1) := by decide +kernel
theorem dL_law_1718 : decode code 1718 = .ok (.iadd, 1) := by decide +kernel
theorem dL_law_1719 : decode code 1719 = .ok (.iaload, 1) := by decide +kernel
theorem dL_law_1720 : decode code 1720 = .ok (.invokevirtual 189, 3) := by decide +kernel
theorem dL_law_1723 : decode code 1723 = .ok (.if_icmp .eq 549, 3) := by decide +kernel
theorem dL_law_1728 : decode code 1728 = .ok (.aload_n 1, 1) := by decide +kernel
theorem dL_law_1729 : decode code 1729 = .ok (.invokevirtual 190, 3) := by decide +kernel
theorem dL_law_1732 : decode code 1732 = .ok (.aload_n 2, 1) := by decide +kernel
theorem dL_law_1733 : decode code 1733 = .ok (.invokevirtual 193, 3) := by decide +kernel
theorem dL_law_1736 : decode code 1736 = .ok (.if_icmp .eq 536, 3) := by decide +kernel
theorem dL_law_1741 : decode code 1741 = .ok (.aload_n 1, 1) := by decide +kernel
theorem dL_law_1742 : decode code 1742 = .ok (.aload_n 0, 1) := by decide +kernel
theorem dL_law_1743 : decode code 1743 = .ok (.iload_n 3, 1) := by decide +kernel
theorem dL_law_1744 : decode code 1744 = .ok (.iconst 1, 1) := by decide +kernel
theorem dL_law_1745 : decode code 1745 = .ok (.iadd, 1) := by decide +kernel
theorem dL_law_1746 : decode code 1746 = .ok (.iaload, 1) := by decide +kernel
theorem dL_law_1747 : decode code 1747 = .ok (.aload_n 0, 1) := by decide +kernel
theorem dL_law_1748 : decode code 1748 = .ok (.iload_n 3, 1) := by decide +kernel
theorem dL_law_1749 : decode code 1749 = .ok (.iconst 2, 1) := by decide +kernel
theorem dL_law_1750 : decode code 1750 = .ok (.iadd, 1) := by decide +kernel
theorem dL_law_1751 : decode code 1751 = .ok (.iaload, 1) := by decide +kernel
theorem dL_law_1752 : decode code 1752 = .ok (.aload_n 0, 1) := by decide +kernel
theorem dL_law_1753 : decode code 1753 = .ok (.iload_n 3, 1) := by decide +kernel
theorem dL_law_1754 : decode code 1754 = .ok (.iconst 3, 1) := by decide +kernel
theorem dL_law_1755 : decode code 1755 = .ok (.iadd, 1) := by decide +kernel
theorem dL_law_1756 : decode code 1756 = .ok (.iaload, 1) := by decide +kernel
theorem dL_law_1757 : decode code 1757 = .ok (.invokevirtual 194, 3) := by decide +kernel
theorem dL_law_1760 : decode code 1760 = .ok (.aload_n 2, 1) := by decide +kernel
theorem dL_law_1761 : decode code 1761 = .ok (.aload_n 0, 1) := by decide +kernel
theorem dL_law_1762 : decode code 1762 = .ok (.iload_n 3, 1) := by decide +kernel
theorem dL_law_1763 : decode code 1763 = .ok (.iconst 1, 1) := by decide +kernel
theorem dL_law_1764 : decode code 1764 = .ok (.iadd, 1) := by decide +kernel
theorem dL_law_1765 : decode code 1765 = .ok (.iaload, 1) := by decide +kernel
theorem dL_law_1766 : decode code 1766 = .ok (.aload_n 0, 1) := by decide +kernel
theorem dL_law_1767 : decode code 1767 = .ok (.iload_n 3, 1) := by decide +kernel
theorem dL_law_1768 : decode code 1768 = .ok (.iconst 2, 1) := by decide +kernel
theorem dL_law_1769 : decode code 1769 = .ok (.iadd, 1) := by decide +kernel
theorem dL_law_1770 : decode code 1770 = .ok (.iaload, 1) := by decide +kernel
theorem dL_law_1771 : decode code 1771 = .ok (.aload_n 0, 1) := by decide +kernel
theorem dL_law_1772 : decode code 1772 = .ok (.iload_n 3, 1) := by decide +kernel
theorem dL_law_1773 : decode code 1773 = .ok (.iconst 3, 1) := by decide +kernel
theorem dL_law_1774 : decode code 1774 = .ok (.iadd, 1) := by decide +kernel
theorem dL_law_1775 : decode code 1775 = .ok (.iaload, 1) := by decide +kernel
theorem dL_law_1776 : decode code 1776 = .ok (.invokevirtual 197, 3) := by decide +kernel
theorem dL_law_1779 : decode code 1779 = .ok (.if_icmp .eq 493, 3) := by decide +kernel
theorem dL_law_1784 : decode code 1784 = .ok (.aload_n 1, 1) := by decide +kernel
theorem dL_law_1785 : decode code 1785 = .ok (.aload_n 0, 1) := by decide +kernel
theorem dL_law_1786 : decode code 1786 = .ok (.iload_n 3, 1) := by decide +kernel
theorem dL_law_1787 : decode code 1787 = .ok (.iconst 1, 1) := by decide +kernel
theorem dL_law_1788 : decode code 1788 = .ok (.iadd, 1) := by decide +kernel
theorem dL_law_1789 : decode code 1789 = .ok (.iaload, 1) := by decide +kernel
theorem dL_law_1790 : decode code 1790 = .ok (.aload_n 0, 1) := by decide +kernel
theorem dL_law_1791 : decode code 1791 = .ok (.iload_n 3, 1) := by decide +kernel
theorem dL_law_1792 : decode code 1792 = .ok (.iconst 2, 1) := by decide +kernel
theorem dL_law_1793 : decode code 1793 = .ok (.iadd, 1) := by decide +kernel
theorem dL_law_1794 : decode code 1794 = .ok (.iaload, 1) := by decide +kernel
theorem dL_law_1795 : decode code 1795 = .ok (.invokevirtual 198, 3) := by decide +kernel
theorem dL_law_1798 : decode code 1798 = .ok (.aload_n 2, 1) := by decide +kernel
theorem dL_law_1799 : decode code 1799 = .ok (.aload_n 0, 1) := by decide +kernel
theorem dL_law_1800 : decode code 1800 = .ok (.iload_n 3, 1) := by decide +kernel
theorem dL_law_1801 : decode code 1801 = .ok (.iconst 1, 1) := by decide +kernel
theorem dL_law_1802 : decode code 1802 = .ok (.iadd, 1) := by decide +kernel
theorem dL_law_1803 : decode code 1803 = .ok (.iaload, 1) := by decide +kernel
theorem dL_law_1804 : decode code 1804 = .ok (.aload_n 0, 1) := by decide +kernel
theorem dL_law_1805 : decode code 1805 = .ok (.iload_n 3, 1) := by decide +kernel
theorem dL_law_1806 : decode code 1806 = .ok (.iconst 2, 1) := by decide +kernel
theorem dL_law_1807 : decode code 1807 = .ok (.iadd, 1) := by decide +kernel
theorem dL_law_1808 : decode code 1808 = .ok (.iaload, 1) := by decide +kernel
theorem dL_law_1809 : decode code 1809 = .ok (.invokevirtual 201, 3) := by decide +kernel
theorem dL_law_1812 : decode code 1812 = .ok (.if_icmp .eq 460, 3) := by decide +kernel
theorem dL_law_1817 : decode code 1817 = .ok (.aload_n 1, 1) := by decide +kernel
theorem dL_law_1818 : decode code 1818 = .ok (.aload_n 0, 1) := by decide +kernel
theorem dL_law_1819 : decode code 1819 = .ok (.iload_n 3, 1) := by decide +kernel
theorem dL_law_1820 : decode code 1820 = .ok (.iconst 1, 1) := by decide +kernel
theorem dL_law_1821 : decode code 1821 = .ok (.iadd, 1) := by decide +kernel
theorem dL_law_1822 : decode code 1822 = .ok (.iaload, 1) := by decide +kernel
theorem dL_law_1823 : decode code 1823 = .ok (.invokevirtual 202, 3) := by decide +kernel
theorem dL_law_1826 : decode code 1826 = .ok (.aload_n 2, 1) := by decide +kernel
theorem dL_law_1827 : decode code 1827 = .ok (.aload_n 0, 1) := by decide +kernel
theorem dL_law_1828 : decode code 1828 = .ok (.iload_n 3, 1) := by decide +kernel
theorem dL_law_1829 : decode code 1829 = .ok (.iconst 1, 1) := by decide +kernel
theorem dL_law_1830 : decode code 1830 = .ok (.iadd, 1) := by decide +kernel
theorem dL_law_1831 : decode code 1831 = .ok (.iaload, 1) := by decide +kernel
theorem dL_law_1832 : decode code 1832 = .ok (.invokevirtual 205, 3) := by decide +kernel
theorem dL_law_1835 : decode code 1835 = .ok (.if_icmp .eq 437, 3) := by decide +kernel
set_option maxRecDepth 100000 in
set_option maxHeartbeats 4000000 in
theorem lawc_30 {p : Program} {l : Launch} {e : Env} {s : State} {m : MethodId} {below : List Frame} {meth : Method} {c : Code} {b : Nat} {xs : Nat → Int32} (C0 : lw_At p s m meth c b 7 xs) {D : va_G} {cI cB cZ : ClassId} {qq vv : Nat} {bt : Nat → Int32} {g h : Nat → Nat} (hK : KK D cI cB cZ s) (hXS : XS D (g 50) qq vv bt (fun q : Nat => s.heap.size ≤ q) s s.heap) {H : Heap} {locs : List Loc} (hP : va_P D vwCl (wXM cI cB g h) H) (hD : va_D (fun q : Nat => s.heap.size ≤ q) (wXM cI cB g h)) (hS : va_S (fun q : Nat => s.heap.size ≤ q) s.heap H locs) {ls : Array Slot} (hl : lv_has ls 4 [(0, .ref b), (1, .ref (g 0)), (2, .ref (h 100)), (3, .int 0)]) : W p l e room_1 s m #[Value.ref b] below meth c H locs 107 14457 (lw_Z below #[Value.ref b] s) (F0 m 1307 ls []) := by
  obtain ⟨hx, hb, hr, hml, hown, hts, hX, hbl, hlocks, hgv⟩ := id C0
  have S : SF p m c code 4 s #[Value.ref b] RL := ⟨hx, hb, hml, hown, fun w h => hts w (wT_lw h)⟩
  obtain ⟨A, hAe⟩ : ∃ A : Nat → Prop, A = (fun q : Nat => s.heap.size ≤ q) := ⟨_, rfl⟩
  rw [← hAe] at hXS hD hS
  have hA : ∀ q : Nat, s.heap.size ≤ q → A q := fun q h => by rw [hAe]; exact h
  have hbA : ¬ A b := by rw [hAe]; exact Nat.not_le.mpr hbl
  refine lv_aload_n hx hb dL_law_1307 rfl (lv_at hl 1 rfl) ?_
  refine lv_aload_n hx hb dL_law_1308 rfl (lv_at hl 0 rfl) ?_
  refine lv_iload_n hx hb dL_law_1309 rfl (lv_at hl 3 rfl) ?_
  refine lv_iconst (v := 1) hx hb dL_law_1310 (by decide) ?_
  refine lv_iadd hx hb dL_law_1311 ?_
  refine lv_topi (fun y_1 ey_1 => ?_)
  obtain rfl : y_1 = 1 := ey_1.trans (by decide)
  refine va_sld hx hb hX hbl hbA hS (by unfold vp_in; decide) dL_law_1312 ?_
  refine lv_topi (fun y_2 ey_2 => ?_)
  obtain rfl : y_2 = (xs 1) := ey_2
  refine lv_aload_n hx hb dL_law_1313 rfl (lv_at hl 0 rfl) ?_
  refine lv_iload_n hx hb dL_law_1314 rfl (lv_at hl 3 rfl) ?_
  refine lv_iconst (v := 2) hx hb dL_law_1315 (by decide) ?_
  refine lv_iadd hx hb dL_law_1316 ?_
  refine lv_topi (fun y_3 ey_3 => ?_)
  obtain rfl : y_3 = 2 := ey_3.trans (by decide)
  refine va_sld hx hb hX hbl hbA hS (by unfold vp_in; decide) dL_law_1317 ?_
  refine lv_topi (fun y_4 ey_4 => ?_)
  obtain rfl : y_4 = (xs 2) := ey_4
  refine vp_callSi (runV_r (As := [.int (xs 1), .int (xs 2)]) (rest := []) S (q_X_first l D cI cB cZ g (xs 1) (xs 2)) kV_RL_144 hK hP [0, 5, 8] rfl 0 rfl rfl rfl ⟨Nat.le_of_ble_eq_true rfl, Nat.le_of_ble_eq_true rfl⟩ ⟨Nat.le_of_ble_eq_true rfl, Nat.le_of_ble_eq_true rfl⟩ rfl hl.1 rfl (Nat.le_of_ble_eq_true rfl) dL_law_1318) (fun r_5 h_6 => ?_)
  refine lv_aload_n hx hb dL_law_1321 rfl (lv_at hl 2 rfl) ?_
  refine lv_aload_n hx hb dL_law_1322 rfl (lv_at hl 0 rfl) ?_
  refine lv_iload_n hx hb dL_law_1323 rfl (lv_at hl 3 rfl) ?_
  refine lv_iconst (v := 1) hx hb dL_law_1324 (by decide) ?_
  refine lv_iadd hx hb dL_law_1325 ?_
  refine lv_topi (fun y_7 ey_7 => ?_)
  obtain rfl : y_7 = 1 := ey_7.trans (by decide)
  refine va_sld hx hb hX hbl hbA hS (by unfold vp_in; decide) dL_law_1326 ?_
  refine lv_topi (fun y_8 ey_8 => ?_)
  obtain rfl : y_8 = (xs 1) := ey_8
  refine lv_aload_n hx hb dL_law_1327 rfl (lv_at hl 0 rfl) ?_
  refine lv_iload_n hx hb dL_law_1328 rfl (lv_at hl 3 rfl) ?_
  refine lv_iconst (v := 2) hx hb dL_law_1329 (by decide) ?_
  refine lv_iadd hx hb dL_law_1330 ?_
  refine lv_topi (fun y_9 ey_9 => ?_)
  obtain rfl : y_9 = 2 := ey_9.trans (by decide)
  refine va_sld hx hb hX hbl hbA hS (by unfold vp_in; decide) dL_law_1331 ?_
  refine lv_topi (fun y_10 ey_10 => ?_)
  obtain rfl : y_10 = (xs 2) := ey_10
  refine vp_callSi (runV_r (As := [.int (xs 1), .int (xs 2)]) (rest := [.int r_5]) S (q_M_first l D cI cB cZ h (xs 1) (xs 2)) kV_RL_147 hK hP [29, 49] rfl 29 rfl rfl rfl ⟨Nat.le_of_ble_eq_true rfl, Nat.le_of_ble_eq_true rfl⟩ ⟨Nat.le_of_ble_eq_true rfl, Nat.le_of_ble_eq_true rfl⟩ rfl hl.1 rfl (Nat.le_of_ble_eq_true rfl) dL_law_1332) (fun r_11 h_12 => ?_)
  refine lv_icmp_eq (tgt := 2272) hx hb dL_law_1335 (by decide) (fun _ => ?_) (fun q => absurd (Eq.trans h_6 (Eq.symm h_12)) q)
  exact law_tail C0 (by rw [← hAe]; exact hS) (Nat.le_of_ble_eq_true rfl) (Nat.le_of_ble_eq_true rfl) hl
set_option maxRecDepth 100000 in
set_option maxHeartbeats 4000000 in
theorem lawc_31 {p : Program} {l : Launch} {e : Env} {s : State} {m : MethodId} {below : List Frame} {meth : Method} {c : Code} {b : Nat} {xs : Nat → Int32} (C0 : lw_At p s m meth c b 7 xs) {D : va_G} {cI cB cZ : ClassId} {qq vv : Nat} {bt : Nat → Int32} {g h : Nat → Nat} (hK : KK D cI cB cZ s) (hXS : XS D (g 50) qq vv bt (fun q : Nat => s.heap.size ≤ q) s s.heap) {H : Heap} {locs : List Loc} (hP : va_P D vwCl (wXM cI cB g h) H) (hD : va_D (fun q : Nat => s.heap.size ≤ q) (wXM cI cB g h)) (hS : va_S (fun q : Nat => s.heap.size ≤ q) s.heap H locs) {ls : Array Slot} (hl : lv_has ls 4 [(0, .ref b), (1, .ref (g 0)), (2, .ref (h 100)), (3, .int 0)]) : W p l e room_1 s m #[Value.ref b] below meth c H locs 107 14457 (lw_Z below #[Value.ref b] s) (F0 m 1340 ls []) := by
  obtain ⟨hx, hb, hr, hml, hown, hts, hX, hbl, hlocks, hgv⟩ := id C0
  have S : SF p m c code 4 s #[Value.ref b] RL := ⟨hx, hb, hml, hown, fun w h => hts w (wT_lw h)⟩
  obtain ⟨A, hAe⟩ : ∃ A : Nat → Prop, A = (fun q : Nat => s.heap.size ≤ q) := ⟨_, rfl⟩
  rw [← hAe] at hXS hD hS
  have hA : ∀ q : Nat, s.heap.size ≤ q → A q := fun q h => by rw [hAe]; exact h
  have hbA : ¬ A b := by rw [hAe]; exact Nat.not_le.mpr hbl
  refine lv_aload_n hx hb dL_law_1340 rfl (lv_at hl 1 rfl) ?_
  refine lv_aload_n hx hb dL_law_1341 rfl (lv_at hl 0 rfl) ?_
  refine lv_iload_n hx hb dL_law_1342 rfl (lv_at hl 3 rfl) ?_
  refine lv_iconst (v := 1) hx hb dL_law_1343 (by decide) ?_
  refine lv_iadd hx hb dL_law_1344 ?_
  refine lv_topi (fun y_1 ey_1 => ?_)
  obtain rfl : y_1 = 1 := ey_1.trans (by decide)
  refine va_sld hx hb hX hbl hbA hS (by unfold vp_in; decide) dL_law_1345 ?_
  refine lv_topi (fun y_2 ey_2 => ?_)
  obtain rfl : y_2 = (xs 1) := ey_2
  refine lv_aload_n hx hb dL_law_1346 rfl (lv_at hl 0 rfl) ?_
  refine lv_iload_n hx hb dL_law_1347 rfl (lv_at hl 3 rfl) ?_
  refine lv_iconst (v := 2) hx hb dL_law_1348 (by decide) ?_
  refine lv_iadd hx hb dL_law_1349 ?_
  refine lv_topi (fun y_3 ey_3 => ?_)
  obtain rfl : y_3 = 2 := ey_3.trans (by decide)
  refine va_sld hx hb hX hbl hbA hS (by unfold vp_in; decide) dL_law_1350 ?_
  refine lv_topi (fun y_4 ey_4 => ?_)
  obtain rfl : y_4 = (xs 2) := ey_4
  refine vp_callSi (runV_r (As := [.int (xs 1), .int (xs 2)]) (rest := []) S (q_X_street l D cI cB cZ g (xs 1) (xs 2)) kV_RL_148 hK hP [0, 23] rfl 0 rfl rfl rfl ⟨Nat.le_of_ble_eq_true rfl, Nat.le_of_ble_eq_true rfl⟩ ⟨Nat.le_of_ble_eq_true rfl, Nat.le_of_ble_eq_true rfl⟩ rfl hl.1 rfl (Nat.le_of_ble_eq_true rfl) dL_law_1351) (fun r_5 h_6 => ?_)
  refine lv_aload_n hx hb dL_law_1354 rfl (lv_at hl 2 rfl) ?_
  refine lv_aload_n hx hb dL_law_1355 rfl (lv_at hl 0 rfl) ?_
  refine lv_iload_n hx hb dL_law_1356 rfl (lv_at hl 3 rfl) ?_
  refine lv_iconst (v := 1) hx hb dL_law_1357 (by decide) ?_
  refine lv_iadd hx hb dL_law_1358 ?_
  refine lv_topi (fun y_7 ey_7 => ?_)
  obtain rfl : y_7 = 1 := ey_7.trans (by decide)
  refine va_sld hx hb hX hbl hbA hS (by unfold vp_in; decide) dL_law_1359 ?_
  refine lv_topi (fun y_8 ey_8 => ?_)
  obtain rfl : y_8 = (xs 1) := ey_8
  refine lv_aload_n hx hb dL_law_1360 rfl (lv_at hl 0 rfl) ?_
  refine lv_iload_n hx hb dL_law_1361 rfl (lv_at hl 3 rfl) ?_
  refine lv_iconst (v := 2) hx hb dL_law_1362 (by decide) ?_
  refine lv_iadd hx hb dL_law_1363 ?_
  refine lv_topi (fun y_9 ey_9 => ?_)
  obtain rfl : y_9 = 2 := ey_9.trans (by decide)
  refine va_sld hx hb hX hbl hbA hS (by unfold vp_in; decide) dL_law_1364 ?_
  refine lv_topi (fun y_10 ey_10 => ?_)
  obtain rfl : y_10 = (xs 2) := ey_10
  refine vp_callSi (runV_r (As := [.int (xs 1), .int (xs 2)]) (rest := [.int r_5]) S (q_M_street l D cI cB cZ h (xs 1) (xs 2)) kV_RL_151 hK hP [29] rfl 29 rfl rfl rfl ⟨Nat.le_of_ble_eq_true rfl, Nat.le_of_ble_eq_true rfl⟩ ⟨Nat.le_of_ble_eq_true rfl, Nat.le_of_ble_eq_true rfl⟩ rfl hl.1 rfl (Nat.le_of_ble_eq_true rfl) dL_law_1365) (fun r_11 h_12 => ?_)
  refine lv_icmp_eq (tgt := 2272) hx hb dL_law_1368 (by decide) (fun _ => ?_) (fun q => absurd (Eq.trans h_6 (Eq.symm h_12)) q)
  exact law_tail C0 (by rw [← hAe]; exact hS) (Nat.le_of_ble_eq_true rfl) (Nat.le_of_ble_eq_true rfl) hl
set_option maxRecDepth 100000 in
set_option maxHeartbeats 4000000 in
theorem lawc_32 {p : Program} {l : Launch} {e : Env} {s : State} {m : MethodId} {below : List Frame} {meth : Method} {c : Code} {b : Nat} {xs : Nat → Int32} (C0 : lw_At p s m meth c b 7 xs) {D : va_G} {cI cB cZ : ClassId} {qq vv : Nat} {bt : Nat → Int32} {g h : Nat → Nat} (hK : KK D cI cB cZ s) (hXS : XS D (g 50) qq vv bt (fun q : Nat => s.heap.size ≤ q) s s.heap) {H : Heap} {locs : List Loc} (hP : va_P D vwCl (wXM cI cB g h) H) (hD : va_D (fun q : Nat => s.heap.size ≤ q) (wXM cI cB g h)) (hS : va_S (fun q : Nat => s.heap.size ≤ q) s.heap H locs) {ls : Array Slot} (hl : lv_has ls 4 [(0, .ref b), (1, .ref (g 0)), (2, .ref (h 100)), (3, .int 0)]) : W p l e room_1 s m #[Value.ref b] below meth c H locs 107 14457 (lw_Z below #[Value.ref b] s) (F0 m 1373 ls []) := by
  obtain ⟨hx, hb, hr, hml, hown, hts, hX, hbl, hlocks, hgv⟩ := id C0
  have S : SF p m c code 4 s #[Value.ref b] RL := ⟨hx, hb, hml, hown, fun w h => hts w (wT_lw h)⟩
  obtain ⟨A, hAe⟩ : ∃ A : Nat → Prop, A = (fun q : Nat => s.heap.size ≤ q) := ⟨_, rfl⟩
  rw [← hAe] at hXS hD hS
  have hA : ∀ q : Nat, s.heap.size ≤ q → A q := fun q h => by rw [hAe]; exact h
  have hbA : ¬ A b := by rw [hAe]; exact Nat.not_le.mpr hbl
  refine lv_aload_n hx hb dL_law_1373 rfl (lv_at hl 1 rfl) ?_
  refine lv_aload_n hx hb dL_law_1374 rfl (lv_at hl 0 rfl) ?_
  refine lv_iload_n hx hb dL_law_1375 rfl (lv_at hl 3 rfl) ?_
  refine lv_iconst (v := 1) hx hb dL_law_1376 (by decide) ?_
  refine lv_iadd hx hb dL_law_1377 ?_
  refine lv_topi (fun y_1 ey_1 => ?_)
  obtain rfl : y_1 = 1 := ey_1.trans (by decide)
  refine va_sld hx hb hX hbl hbA hS (by unfold vp_in; decide) dL_law_1378 ?_
  refine lv_topi (fun y_2 ey_2 => ?_)
  obtain rfl : y_2 = (xs 1) := ey_2
  refine lv_aload_n hx hb dL_law_1379 rfl (lv_at hl 0 rfl) ?_
  refine lv_iload_n hx hb dL_law_1380 rfl (lv_at hl 3 rfl) ?_
  refine lv_iconst (v := 2) hx hb dL_law_1381 (by decide) ?_
  refine lv_iadd hx hb dL_law_1382 ?_
  refine lv_topi (fun y_3 ey_3 => ?_)
  obtain rfl : y_3 = 2 := ey_3.trans (by decide)
  refine va_sld hx hb hX hbl hbA hS (by unfold vp_in; decide) dL_law_1383 ?_
  refine lv_topi (fun y_4 ey_4 => ?_)
  obtain rfl : y_4 = (xs 2) := ey_4
  refine vp_callSl (runV_r (As := [.int (xs 1), .int (xs 2)]) (rest := []) S (q_X_streets l D cI cB cZ g (xs 1) (xs 2)) kV_RL_152 hK hP [0, 24] rfl 0 rfl rfl rfl ⟨Nat.le_of_ble_eq_true rfl, Nat.le_of_ble_eq_true rfl⟩ ⟨Nat.le_of_ble_eq_true rfl, Nat.le_of_ble_eq_true rfl⟩ rfl hl.1 rfl (Nat.le_of_ble_eq_true rfl) dL_law_1384) (fun r_5 h_6 => ?_)
  refine lv_aload_n hx hb dL_law_1387 rfl (lv_at hl 2 rfl) ?_
  refine lv_aload_n hx hb dL_law_1388 rfl (lv_at hl 0 rfl) ?_
  refine lv_iload_n hx hb dL_law_1389 rfl (lv_at hl 3 rfl) ?_
  refine lv_iconst (v := 1) hx hb dL_law_1390 (by decide) ?_
  refine lv_iadd hx hb dL_law_1391 ?_
  refine lv_topi (fun y_7 ey_7 => ?_)
  obtain rfl : y_7 = 1 := ey_7.trans (by decide)
  refine va_sld hx hb hX hbl hbA hS (by unfold vp_in; decide) dL_law_1392 ?_
  refine lv_topi (fun y_8 ey_8 => ?_)
  obtain rfl : y_8 = (xs 1) := ey_8
  refine lv_aload_n hx hb dL_law_1393 rfl (lv_at hl 0 rfl) ?_
  refine lv_iload_n hx hb dL_law_1394 rfl (lv_at hl 3 rfl) ?_
  refine lv_iconst (v := 2) hx hb dL_law_1395 (by decide) ?_
  refine lv_iadd hx hb dL_law_1396 ?_
  refine lv_topi (fun y_9 ey_9 => ?_)
  obtain rfl : y_9 = 2 := ey_9.trans (by decide)
  refine va_sld hx hb hX hbl hbA hS (by unfold vp_in; decide) dL_law_1397 ?_
  refine lv_topi (fun y_10 ey_10 => ?_)
  obtain rfl : y_10 = (xs 2) := ey_10
  refine vp_callSl (runV_r (As := [.int (xs 1), .int (xs 2)]) (rest := [.long r_5]) S (q_M_streets l D cI cB cZ h (xs 1) (xs 2)) kV_RL_155 hK hP [29] rfl 29 rfl rfl rfl ⟨Nat.le_of_ble_eq_true rfl, Nat.le_of_ble_eq_true rfl⟩ ⟨Nat.le_of_ble_eq_true rfl, Nat.le_of_ble_eq_true rfl⟩ rfl hl.1 rfl (Nat.le_of_ble_eq_true rfl) dL_law_1398) (fun r_11 h_12 => ?_)
  obtain rfl : r_5 = r_11 := Eq.trans h_6 (Eq.symm h_12)
  refine W.lcmp hx hb dL_law_1401 ?_
  refine lv_topi (fun y_13 ey_13 => ?_)
  obtain rfl : y_13 = 0 := ey_13.trans (by simp [lg_cmp])
  refine lv_if_eq (tgt := 2272) hx hb dL_law_1402 (by decide) (fun _ => ?_) (fun h => absurd h (by decide))
  exact law_tail C0 (by rw [← hAe]; exact hS) (Nat.le_of_ble_eq_true rfl) (Nat.le_of_ble_eq_true rfl) hl
set_option maxRecDepth 100000 in
set_option maxHeartbeats 4000000 in
theorem lawc_33 {p : Program} {l : Launch} {e : Env} {s : State} {m : MethodId} {below : List Frame} {meth : Method} {c : Code} {b : Nat} {xs : Nat → Int32} (C0 : lw_At p s m meth c b 7 xs) {D : va_G} {cI cB cZ : ClassId} {qq vv : Nat} {bt : Nat → Int32} {g h : Nat → Nat} (hK : KK D cI cB cZ s) (hXS : XS D (g 50) qq vv bt (fun q : Nat => s.heap.size ≤ q) s s.heap) {H : Heap} {locs : List Loc} (hP : va_P D vwCl (wXM cI cB g h) H) (hD : va_D (fun q : Nat => s.heap.size ≤ q) (wXM cI cB g h)) (hS : va_S (fun q : Nat => s.heap.size ≤ q) s.heap H locs) {ls : Array Slot} (hl : lv_has ls 4 [(0, .ref b), (1, .ref (g 0)), (2, .ref (h 100)), (3, .int 0)]) : W p l e room_1 s m #[Value.ref b] below meth c H locs 107 14457 (lw_Z below #[Value.ref b] s) (F0 m 1407 ls []) := by
  obtain ⟨hx, hb, hr, hml, hown, hts, hX, hbl, hlocks, hgv⟩ := id C0
  have S : SF p m c code 4 s #[Value.ref b] RL := ⟨hx, hb, hml, hown, fun w h => hts w (wT_lw h)⟩
  obtain ⟨A, hAe⟩ : ∃ A : Nat → Prop, A = (fun q : Nat => s.heap.size ≤ q) := ⟨_, rfl⟩
  rw [← hAe] at hXS hD hS
  have hA : ∀ q : Nat, s.heap.size ≤ q → A q := fun q h => by rw [hAe]; exact h
  have hbA : ¬ A b := by rw [hAe]; exact Nat.not_le.mpr hbl
  refine lv_aload_n hx hb dL_law_1407 rfl (lv_at hl 1 rfl) ?_
  refine lv_aload_n hx hb dL_law_1408 rfl (lv_at hl 0 rfl) ?_
  refine lv_iload_n hx hb dL_law_1409 rfl (lv_at hl 3 rfl) ?_
  refine lv_iconst (v := 1) hx hb dL_law_1410 (by decide) ?_
  refine lv_iadd hx hb dL_law_1411 ?_
  refine lv_topi (fun y_1 ey_1 => ?_)
  obtain rfl : y_1 = 1 := ey_1.trans (by decide)
  refine va_sld hx hb hX hbl hbA hS (by unfold vp_in; decide) dL_law_1412 ?_
  refine lv_topi (fun y_2 ey_2 => ?_)
  obtain rfl : y_2 = (xs 1) := ey_2
  refine lv_aload_n hx hb dL_law_1413 rfl (lv_at hl 0 rfl) ?_
  refine lv_iload_n hx hb dL_law_1414 rfl (lv_at hl 3 rfl) ?_
  refine lv_iconst (v := 2) hx hb dL_law_1415 (by decide) ?_
  refine lv_iadd hx hb dL_law_1416 ?_
  refine lv_topi (fun y_3 ey_3 => ?_)
  obtain rfl : y_3 = 2 := ey_3.trans (by decide)
  refine va_sld hx hb hX hbl hbA hS (by unfold vp_in; decide) dL_law_1417 ?_
  refine lv_topi (fun y_4 ey_4 => ?_)
  obtain rfl : y_4 = (xs 2) := ey_4
  refine lv_aload_n hx hb dL_law_1418 rfl (lv_at hl 0 rfl) ?_
  refine lv_iload_n hx hb dL_law_1419 rfl (lv_at hl 3 rfl) ?_
  refine lv_iconst (v := 3) hx hb dL_law_1420 (by decide) ?_
  refine lv_iadd hx hb dL_law_1421 ?_
  refine lv_topi (fun y_5 ey_5 => ?_)
  obtain rfl : y_5 = 3 := ey_5.trans (by decide)
  refine va_sld hx hb hX hbl hbA hS (by unfold vp_in; decide) dL_law_1422 ?_
  refine lv_topi (fun y_6 ey_6 => ?_)
  obtain rfl : y_6 = (xs 3) := ey_6
  refine vp_callSl (runV_r (As := [.int (xs 1), .int (xs 2), .int (xs 3)]) (rest := []) S (q_X_cheat l D cI cB cZ g (xs 1) (xs 2) (xs 3)) kV_RL_156 hK hP [0, 23] rfl 0 rfl rfl rfl ⟨Nat.le_of_ble_eq_true rfl, Nat.le_of_ble_eq_true rfl⟩ ⟨Nat.le_of_ble_eq_true rfl, Nat.le_of_ble_eq_true rfl⟩ rfl hl.1 rfl (Nat.le_of_ble_eq_true rfl) dL_law_1423) (fun r_7 h_8 => ?_)
  refine lv_aload_n hx hb dL_law_1426 rfl (lv_at hl 2 rfl) ?_
  refine lv_aload_n hx hb dL_law_1427 rfl (lv_at hl 0 rfl) ?_
  refine lv_iload_n hx hb dL_law_1428 rfl (lv_at hl 3 rfl) ?_
  refine lv_iconst (v := 1) hx hb dL_law_1429 (by decide) ?_
  refine lv_iadd hx hb dL_law_1430 ?_
  refine lv_topi (fun y_9 ey_9 => ?_)
  obtain rfl : y_9 = 1 := ey_9.trans (by decide)
  refine va_sld hx hb hX hbl hbA hS (by unfold vp_in; decide) dL_law_1431 ?_
  refine lv_topi (fun y_10 ey_10 => ?_)
  obtain rfl : y_10 = (xs 1) := ey_10
  refine lv_aload_n hx hb dL_law_1432 rfl (lv_at hl 0 rfl) ?_
  refine lv_iload_n hx hb dL_law_1433 rfl (lv_at hl 3 rfl) ?_
  refine lv_iconst (v := 2) hx hb dL_law_1434 (by decide) ?_
  refine lv_iadd hx hb dL_law_1435 ?_
  refine lv_topi (fun y_11 ey_11 => ?_)
  obtain rfl : y_11 = 2 := ey_11.trans (by decide)
  refine va_sld hx hb hX hbl hbA hS (by unfold vp_in; decide) dL_law_1436 ?_
  refine lv_topi (fun y_12 ey_12 => ?_)
  obtain rfl : y_12 = (xs 2) := ey_12
  refine lv_aload_n hx hb dL_law_1437 rfl (lv_at hl 0 rfl) ?_
  refine lv_iload_n hx hb dL_law_1438 rfl (lv_at hl 3 rfl) ?_
  refine lv_iconst (v := 3) hx hb dL_law_1439 (by decide) ?_
  refine lv_iadd hx hb dL_law_1440 ?_
  refine lv_topi (fun y_13 ey_13 => ?_)
  obtain rfl : y_13 = 3 := ey_13.trans (by decide)
  refine va_sld hx hb hX hbl hbA hS (by unfold vp_in; decide) dL_law_1441 ?_
  refine lv_topi (fun y_14 ey_14 => ?_)
  obtain rfl : y_14 = (xs 3) := ey_14
  refine vp_callSl (runV_r (As := [.int (xs 1), .int (xs 2), .int (xs 3)]) (rest := [.long r_7]) S (q_M_cheat l D cI cB cZ h (xs 1) (xs 2) (xs 3)) kV_RL_160 hK hP [29] rfl 29 rfl rfl rfl ⟨Nat.le_of_ble_eq_true rfl, Nat.le_of_ble_eq_true rfl⟩ ⟨Nat.le_of_ble_eq_true rfl, Nat.le_of_ble_eq_true rfl⟩ rfl hl.1 rfl (Nat.le_of_ble_eq_true rfl) dL_law_1442) (fun r_15 h_16 => ?_)
  obtain rfl : r_7 = r_15 := Eq.trans h_8 (Eq.symm h_16)
  refine W.lcmp hx hb dL_law_1445 ?_
  refine lv_topi (fun y_17 ey_17 => ?_)
  obtain rfl : y_17 = 0 := ey_17.trans (by simp [lg_cmp])
  refine lv_if_eq (tgt := 2272) hx hb dL_law_1446 (by decide) (fun _ => ?_) (fun h => absurd h (by decide))
  exact law_tail C0 (by rw [← hAe]; exact hS) (Nat.le_of_ble_eq_true rfl) (Nat.le_of_ble_eq_true rfl) hl
set_option maxRecDepth 100000 in
set_option maxHeartbeats 4000000 in
theorem lawc_34 {p : Program} {l : Launch} {e : Env} {s : State} {m : MethodId} {below : List Frame} {meth : Method} {c : Code} {b : Nat} {xs : Nat → Int32} (C0 : lw_At p s m meth c b 7 xs) {D : va_G} {cI cB cZ : ClassId} {qq vv : Nat} {bt : Nat → Int32} {g h : Nat → Nat} (hK : KK D cI cB cZ s) (hXS : XS D (g 50) qq vv bt (fun q : Nat => s.heap.size ≤ q) s s.heap) {H : Heap} {locs : List Loc} (hP : va_P D vwCl (wXM cI cB g h) H) (hD : va_D (fun q : Nat => s.heap.size ≤ q) (wXM cI cB g h)) (hS : va_S (fun q : Nat => s.heap.size ≤ q) s.heap H locs) {ls : Array Slot} (hl : lv_has ls 4 [(0, .ref b), (1, .ref (g 0)), (2, .ref (h 100)), (3, .int 0)]) : W p l e room_1 s m #[Value.ref b] below meth c H locs 107 14457 (lw_Z below #[Value.ref b] s) (F0 m 1451 ls []) := by
  obtain ⟨hx, hb, hr, hml, hown, hts, hX, hbl, hlocks, hgv⟩ := id C0
  have S : SF p m c code 4 s #[Value.ref b] RL := ⟨hx, hb, hml, hown, fun w h => hts w (wT_lw h)⟩
  obtain ⟨A, hAe⟩ : ∃ A : Nat → Prop, A = (fun q : Nat => s.heap.size ≤ q) := ⟨_, rfl⟩
  rw [← hAe] at hXS hD hS
  have hA : ∀ q : Nat, s.heap.size ≤ q → A q := fun q h => by rw [hAe]; exact h
  have hbA : ¬ A b := by rw [hAe]; exact Nat.not_le.mpr hbl
  refine lv_aload_n hx hb dL_law_1451 rfl (lv_at hl 1 rfl) ?_
  refine lv_aload_n hx hb dL_law_1452 rfl (lv_at hl 0 rfl) ?_
  refine lv_iload_n hx hb dL_law_1453 rfl (lv_at hl 3 rfl) ?_
  refine lv_iconst (v := 1) hx hb dL_law_1454 (by decide) ?_
  refine lv_iadd hx hb dL_law_1455 ?_
  refine lv_topi (fun y_1 ey_1 => ?_)
  obtain rfl : y_1 = 1 := ey_1.trans (by decide)
  refine va_sld hx hb hX hbl hbA hS (by unfold vp_in; decide) dL_law_1456 ?_
  refine lv_topi (fun y_2 ey_2 => ?_)
  obtain rfl : y_2 = (xs 1) := ey_2
  refine lv_aload_n hx hb dL_law_1457 rfl (lv_at hl 0 rfl) ?_
  refine lv_iload_n hx hb dL_law_1458 rfl (lv_at hl 3 rfl) ?_
  refine lv_iconst (v := 2) hx hb dL_law_1459 (by decide) ?_
  refine lv_iadd hx hb dL_law_1460 ?_
  refine lv_topi (fun y_3 ey_3 => ?_)
  obtain rfl : y_3 = 2 := ey_3.trans (by decide)
  refine va_sld hx hb hX hbl hbA hS (by unfold vp_in; decide) dL_law_1461 ?_
  refine lv_topi (fun y_4 ey_4 => ?_)
  obtain rfl : y_4 = (xs 2) := ey_4
  refine vp_callSi (runV_r (As := [.int (xs 1), .int (xs 2)]) (rest := []) S (q_X_asIf l D cI cB cZ g (xs 1) (xs 2)) kV_RL_161 hK hP [0, 23] rfl 0 rfl rfl rfl ⟨Nat.le_of_ble_eq_true rfl, Nat.le_of_ble_eq_true rfl⟩ ⟨Nat.le_of_ble_eq_true rfl, Nat.le_of_ble_eq_true rfl⟩ rfl hl.1 rfl (Nat.le_of_ble_eq_true rfl) dL_law_1462) (fun r_5 h_6 => ?_)
  refine lv_aload_n hx hb dL_law_1465 rfl (lv_at hl 2 rfl) ?_
  refine lv_aload_n hx hb dL_law_1466 rfl (lv_at hl 0 rfl) ?_
  refine lv_iload_n hx hb dL_law_1467 rfl (lv_at hl 3 rfl) ?_
  refine lv_iconst (v := 1) hx hb dL_law_1468 (by decide) ?_
  refine lv_iadd hx hb dL_law_1469 ?_
  refine lv_topi (fun y_7 ey_7 => ?_)
  obtain rfl : y_7 = 1 := ey_7.trans (by decide)
  refine va_sld hx hb hX hbl hbA hS (by unfold vp_in; decide) dL_law_1470 ?_
  refine lv_topi (fun y_8 ey_8 => ?_)
  obtain rfl : y_8 = (xs 1) := ey_8
  refine lv_aload_n hx hb dL_law_1471 rfl (lv_at hl 0 rfl) ?_
  refine lv_iload_n hx hb dL_law_1472 rfl (lv_at hl 3 rfl) ?_
  refine lv_iconst (v := 2) hx hb dL_law_1473 (by decide) ?_
  refine lv_iadd hx hb dL_law_1474 ?_
  refine lv_topi (fun y_9 ey_9 => ?_)
  obtain rfl : y_9 = 2 := ey_9.trans (by decide)
  refine va_sld hx hb hX hbl hbA hS (by unfold vp_in; decide) dL_law_1475 ?_
  refine lv_topi (fun y_10 ey_10 => ?_)
  obtain rfl : y_10 = (xs 2) := ey_10
  refine vp_callSi (runV_r (As := [.int (xs 1), .int (xs 2)]) (rest := [.int r_5]) S (q_M_asIf l D cI cB cZ h (xs 1) (xs 2)) kV_RL_164 hK hP [29] rfl 29 rfl rfl rfl ⟨Nat.le_of_ble_eq_true rfl, Nat.le_of_ble_eq_true rfl⟩ ⟨Nat.le_of_ble_eq_true rfl, Nat.le_of_ble_eq_true rfl⟩ rfl hl.1 rfl (Nat.le_of_ble_eq_true rfl) dL_law_1476) (fun r_11 h_12 => ?_)
  refine lv_icmp_eq (tgt := 2272) hx hb dL_law_1479 (by decide) (fun _ => ?_) (fun q => absurd (Eq.trans h_6 (Eq.symm h_12)) q)
  exact law_tail C0 (by rw [← hAe]; exact hS) (Nat.le_of_ble_eq_true rfl) (Nat.le_of_ble_eq_true rfl) hl
set_option maxRecDepth 100000 in
set_option maxHeartbeats 4000000 in
theorem lawc_35 {p : Program} {l : Launch} {e : Env} {s : State} {m : MethodId} {below : List Frame} {meth : Method} {c : Code} {b : Nat} {xs : Nat → Int32} (C0 : lw_At p s m meth c b 7 xs) {D : va_G} {cI cB cZ : ClassId} {qq vv : Nat} {bt : Nat → Int32} {g h : Nat → Nat} (hK : KK D cI cB cZ s) (hXS : XS D (g 50) qq vv bt (fun q : Nat => s.heap.size ≤ q) s s.heap) {H : Heap} {locs : List Loc} (hP : va_P D vwCl (wXM cI cB g h) H) (hD : va_D (fun q : Nat => s.heap.size ≤ q) (wXM cI cB g h)) (hS : va_S (fun q : Nat => s.heap.size ≤ q) s.heap H locs) {ls : Array Slot} (hl : lv_has ls 4 [(0, .ref b), (1, .ref (g 0)), (2, .ref (h 100)), (3, .int 0)]) : W p l e room_1 s m #[Value.ref b] below meth c H locs 107 14457 (lw_Z below #[Value.ref b] s) (F0 m 1484 ls []) := by
  obtain ⟨hx, hb, hr, hml, hown, hts, hX, hbl, hlocks, hgv⟩ := id C0
  have S : SF p m c code 4 s #[Value.ref b] RL := ⟨hx, hb, hml, hown, fun w h => hts w (wT_lw h)⟩
  obtain ⟨A, hAe⟩ : ∃ A : Nat → Prop, A = (fun q : Nat => s.heap.size ≤ q) := ⟨_, rfl⟩
  rw [← hAe] at hXS hD hS
  have hA : ∀ q : Nat, s.heap.size ≤ q → A q := fun q h => by rw [hAe]; exact h
  have hbA : ¬ A b := by rw [hAe]; exact Nat.not_le.mpr hbl
  refine lv_aload_n hx hb dL_law_1484 rfl (lv_at hl 1 rfl) ?_
  refine lv_aload_n hx hb dL_law_1485 rfl (lv_at hl 0 rfl) ?_
  refine lv_iload_n hx hb dL_law_1486 rfl (lv_at hl 3 rfl) ?_
  refine lv_iconst (v := 1) hx hb dL_law_1487 (by decide) ?_
  refine lv_iadd hx hb dL_law_1488 ?_
  refine lv_topi (fun y_1 ey_1 => ?_)
  obtain rfl : y_1 = 1 := ey_1.trans (by decide)
  refine va_sld hx hb hX hbl hbA hS (by unfold vp_in; decide) dL_law_1489 ?_
  refine lv_topi (fun y_2 ey_2 => ?_)
  obtain rfl : y_2 = (xs 1) := ey_2
  have hFc := va_free (wc := [((g 0), .inr (12, oX g)), ((g 8), .inr (8, oT g)), ((g 27), .inl (cI, 3, .inl (fun _ => 0)))]) hD hS hA [0, 5, 13] rfl
  refine va_calli (runV_w (As := [.int (xs 1)]) (rest := []) S (q_X_lorry l D cI cB cZ g (xs 1) H.size) kV_RL_165 hK hP hD [0, 5, 13] rfl rfl (by decide) 0 rfl rfl rfl ⟨Nat.le_of_ble_eq_true rfl, Nat.le_of_ble_eq_true rfl⟩ ⟨Nat.le_of_ble_eq_true rfl, Nat.le_of_ble_eq_true rfl⟩ rfl hl.1 rfl (Nat.le_of_ble_eq_true rfl) dL_law_1490) hS (fun q _ h => hFc q h) hFc (fun r_3 u_4 t H1 locs ht hvm h_5 hB hz1 hk1 hS => ?_)
  have hP1 : va_P D vwCl [] H1 := fun k q h => by simp at h
  have hD1 : va_D (va_A [((g 0), .inr (12, oX g)), ((g 8), .inr (8, oT g)), ((g 27), .inl (cI, 3, .inl (fun _ => 0)))] H.size) [] := ⟨fun i j p q h => by simp at h, fun k q h => by simp at h⟩
  obtain ⟨hP, hD⟩ := va_join (wr := [((h 100), .inr (13, oM h)), ((h 47), .inl (cI, 3, .inl (fun _ => 0)))]) (w1 := []) hP hD [0, 5, 13] [29, 38] rfl rfl (by decide) (by decide) hk1 hFc hP1 hD1
  generalize H1 = H at hP hS ⊢
  have hP : va_P D vwCl [((h 100), .inr (13, oM h)), ((h 47), .inl (cI, 3, .inl (fun _ => 0)))] H := hP
  have hD : va_D A [((h 100), .inr (13, oM h)), ((h 47), .inl (cI, 3, .inl (fun _ => 0)))] := hD
  refine lv_aload_n hx hb dL_law_1493 rfl (lv_at hl 2 rfl) ?_
  refine lv_aload_n hx hb dL_law_1494 rfl (lv_at hl 0 rfl) ?_
  refine lv_iload_n hx hb dL_law_1495 rfl (lv_at hl 3 rfl) ?_
  refine lv_iconst (v := 1) hx hb dL_law_1496 (by decide) ?_
  refine lv_iadd hx hb dL_law_1497 ?_
  refine lv_topi (fun y_6 ey_6 => ?_)
  obtain rfl : y_6 = 1 := ey_6.trans (by decide)
  refine va_sld hx hb hX hbl hbA hS (by unfold vp_in; decide) dL_law_1498 ?_
  refine lv_topi (fun y_7 ey_7 => ?_)
  obtain rfl : y_7 = (xs 1) := ey_7
  have hFc := va_free (wc := [((h 100), .inr (13, oM h)), ((h 47), .inl (cI, 3, .inl (fun _ => 0)))]) hD hS hA [0, 1] rfl
  refine va_calli (runV_w (As := [.int (xs 1)]) (rest := [.int r_3]) S (q_M_lorry l D cI cB cZ h (xs 1) H.size) kV_RL_168 hK hP hD [0, 1] rfl rfl (by decide) 0 rfl rfl rfl ⟨Nat.le_of_ble_eq_true rfl, Nat.le_of_ble_eq_true rfl⟩ ⟨Nat.le_of_ble_eq_true rfl, Nat.le_of_ble_eq_true rfl⟩ rfl hl.1 rfl (Nat.le_of_ble_eq_true rfl) dL_law_1499) hS (fun q _ h => hFc q h) hFc (fun r_8 u_9 t H1 locs ht hvm h_10 hB hz1 hk1 hS => ?_)
  have hP1 : va_P D vwCl [] H1 := fun k q h => by simp at h
  have hD1 : va_D (va_A [((h 100), .inr (13, oM h)), ((h 47), .inl (cI, 3, .inl (fun _ => 0)))] H.size) [] := ⟨fun i j p q h => by simp at h, fun k q h => by simp at h⟩
  obtain ⟨hP, hD⟩ := va_join (wr := []) (w1 := []) hP hD [0, 1] [] rfl rfl (by decide) (by decide) hk1 hFc hP1 hD1
  generalize H1 = H at hP hS ⊢
  have hP : va_P D vwCl [] H := hP
  have hD : va_D A [] := hD
  refine lv_icmp_eq (tgt := 2272) hx hb dL_law_1502 (by decide) (fun _ => ?_) (fun q => absurd (Eq.trans h_5 (Eq.symm h_10)) q)
  exact law_tail C0 (by rw [← hAe]; exact hS) (Nat.le_of_ble_eq_true rfl) (Nat.le_of_ble_eq_true rfl) hl
set_option maxRecDepth 100000 in
set_option maxHeartbeats 4000000 in
theorem lawc_36 {p : Program} {l : Launch} {e : Env} {s : State} {m : MethodId} {below : List Frame} {meth : Method} {c : Code} {b : Nat} {xs : Nat → Int32} (C0 : lw_At p s m meth c b 7 xs) {D : va_G} {cI cB cZ : ClassId} {qq vv : Nat} {bt : Nat → Int32} {g h : Nat → Nat} (hK : KK D cI cB cZ s) (hXS : XS D (g 50) qq vv bt (fun q : Nat => s.heap.size ≤ q) s s.heap) {H : Heap} {locs : List Loc} (hP : va_P D vwCl (wXM cI cB g h) H) (hD : va_D (fun q : Nat => s.heap.size ≤ q) (wXM cI cB g h)) (hS : va_S (fun q : Nat => s.heap.size ≤ q) s.heap H locs) {ls : Array Slot} (hl : lv_has ls 4 [(0, .ref b), (1, .ref (g 0)), (2, .ref (h 100)), (3, .int 0)]) : W p l e room_1 s m #[Value.ref b] below meth c H locs 107 14457 (lw_Z below #[Value.ref b] s) (F0 m 1507 ls []) := by
  obtain ⟨hx, hb, hr, hml, hown, hts, hX, hbl, hlocks, hgv⟩ := id C0
  have S : SF p m c code 4 s #[Value.ref b] RL := ⟨hx, hb, hml, hown, fun w h => hts w (wT_lw h)⟩
  obtain ⟨A, hAe⟩ : ∃ A : Nat → Prop, A = (fun q : Nat => s.heap.size ≤ q) := ⟨_, rfl⟩
  rw [← hAe] at hXS hD hS
  have hA : ∀ q : Nat, s.heap.size ≤ q → A q := fun q h => by rw [hAe]; exact h
  have hbA : ¬ A b := by rw [hAe]; exact Nat.not_le.mpr hbl
  refine lv_aload_n hx hb dL_law_1507 rfl (lv_at hl 1 rfl) ?_
  refine lv_aload_n hx hb dL_law_1508 rfl (lv_at hl 0 rfl) ?_
  refine lv_iload_n hx hb dL_law_1509 rfl (lv_at hl 3 rfl) ?_
  refine lv_iconst (v := 1) hx hb dL_law_1510 (by decide) ?_
  refine lv_iadd hx hb dL_law_1511 ?_
  refine lv_topi (fun y_1 ey_1 => ?_)
  obtain rfl : y_1 = 1 := ey_1.trans (by decide)
  refine va_sld hx hb hX hbl hbA hS (by unfold vp_in; decide) dL_law_1512 ?_
  refine lv_topi (fun y_2 ey_2 => ?_)
  obtain rfl : y_2 = (xs 1) := ey_2
  refine lv_aload_n hx hb dL_law_1513 rfl (lv_at hl 0 rfl) ?_
  refine lv_iload_n hx hb dL_law_1514 rfl (lv_at hl 3 rfl) ?_
  refine lv_iconst (v := 2) hx hb dL_law_1515 (by decide) ?_
  refine lv_iadd hx hb dL_law_1516 ?_
  refine lv_topi (fun y_3 ey_3 => ?_)
  obtain rfl : y_3 = 2 := ey_3.trans (by decide)
  refine va_sld hx hb hX hbl hbA hS (by unfold vp_in; decide) dL_law_1517 ?_
  refine lv_topi (fun y_4 ey_4 => ?_)
  obtain rfl : y_4 = (xs 2) := ey_4
  refine lv_aload_n hx hb dL_law_1518 rfl (lv_at hl 0 rfl) ?_
  refine lv_iload_n hx hb dL_law_1519 rfl (lv_at hl 3 rfl) ?_
  refine lv_iconst (v := 3) hx hb dL_law_1520 (by decide) ?_
  refine lv_iadd hx hb dL_law_1521 ?_
  refine lv_topi (fun y_5 ey_5 => ?_)
  obtain rfl : y_5 = 3 := ey_5.trans (by decide)
  refine va_sld hx hb hX hbl hbA hS (by unfold vp_in; decide) dL_law_1522 ?_
  refine lv_topi (fun y_6 ey_6 => ?_)
  obtain rfl : y_6 = (xs 3) := ey_6
  refine lv_if_eq (tgt := 1530) hx hb dL_law_1523 (by decide) (fun c_7 => ?_) (fun c_7 => ?_)
  ·
    have tc_7 : ((xs 3).toInt : Int) = 0 := congrArg Int32.toInt c_7
    refine lv_iconst (v := 0) hx hb dL_law_1530 (by decide) ?_
    refine vp_callSi (runV_r (As := [.int (xs 1), .int (xs 2), .int 0]) (rest := []) S (q_X_off l D cI cB cZ g (xs 1) (xs 2) 0) kV_RL_169 hK hP [0] rfl 0 rfl rfl rfl ⟨Nat.le_of_ble_eq_true rfl, Nat.le_of_ble_eq_true rfl⟩ ⟨Nat.le_of_ble_eq_true rfl, Nat.le_of_ble_eq_true rfl⟩ rfl hl.1 rfl (Nat.le_of_ble_eq_true rfl) dL_law_1531) (fun r_8 h_9 => ?_)
    refine lv_aload_n hx hb dL_law_1534 rfl (lv_at hl 2 rfl) ?_
    refine lv_aload_n hx hb dL_law_1535 rfl (lv_at hl 0 rfl) ?_
    refine lv_iload_n hx hb dL_law_1536 rfl (lv_at hl 3 rfl) ?_
    refine lv_iconst (v := 1) hx hb dL_law_1537 (by decide) ?_
    refine lv_iadd hx hb dL_law_1538 ?_
    refine lv_topi (fun y_10 ey_10 => ?_)
    obtain rfl : y_10 = 1 := ey_10.trans (by decide)
    refine va_sld hx hb hX hbl hbA hS (by unfold vp_in; decide) dL_law_1539 ?_
    refine lv_topi (fun y_11 ey_11 => ?_)
    obtain rfl : y_11 = (xs 1) := ey_11
    refine lv_aload_n hx hb dL_law_1540 rfl (lv_at hl 0 rfl) ?_
    refine lv_iload_n hx hb dL_law_1541 rfl (lv_at hl 3 rfl) ?_
    refine lv_iconst (v := 2) hx hb dL_law_1542 (by decide) ?_
    refine lv_iadd hx hb dL_law_1543 ?_
    refine lv_topi (fun y_12 ey_12 => ?_)
    obtain rfl : y_12 = 2 := ey_12.trans (by decide)
    refine va_sld hx hb hX hbl hbA hS (by unfold vp_in; decide) dL_law_1544 ?_
    refine lv_topi (fun y_13 ey_13 => ?_)
    obtain rfl : y_13 = (xs 2) := ey_13
    refine lv_aload_n hx hb dL_law_1545 rfl (lv_at hl 0 rfl) ?_
    refine lv_iload_n hx hb dL_law_1546 rfl (lv_at hl 3 rfl) ?_
    refine lv_iconst (v := 3) hx hb dL_law_1547 (by decide) ?_
    refine lv_iadd hx hb dL_law_1548 ?_
    refine lv_topi (fun y_14 ey_14 => ?_)
    obtain rfl : y_14 = 3 := ey_14.trans (by decide)
    refine va_sld hx hb hX hbl hbA hS (by unfold vp_in; decide) dL_law_1549 ?_
    refine lv_topi (fun y_15 ey_15 => ?_)
    obtain rfl : y_15 = (xs 3) := ey_15
    refine lv_if_eq (tgt := 1557) hx hb dL_law_1550 (by decide) (fun c_16 => ?_) (fun c_16 => False.elim (by have tc_16 : ((xs 3).toInt : Int) ≠ 0 := fun q => c_16 (Int32.toInt_inj.mp q); omega))
    have tc_16 : ((xs 3).toInt : Int) = 0 := congrArg Int32.toInt c_16
    refine lv_iconst (v := 0) hx hb dL_law_1557 (by decide) ?_
    refine vp_callSi (runV_r (As := [.int (xs 1), .int (xs 2), .int 0]) (rest := [.int r_8]) S (q_M_off l D cI cB cZ h (xs 1) (xs 2) 0) kV_RL_173 hK hP [29] rfl 29 rfl rfl rfl ⟨Nat.le_of_ble_eq_true rfl, Nat.le_of_ble_eq_true rfl⟩ ⟨Nat.le_of_ble_eq_true rfl, Nat.le_of_ble_eq_true rfl⟩ rfl hl.1 rfl (Nat.le_of_ble_eq_true rfl) dL_law_1558) (fun r_17 h_18 => ?_)
    refine lv_icmp_eq (tgt := 2272) hx hb dL_law_1561 (by decide) (fun _ => ?_) (fun q => absurd (Eq.trans h_9 (Eq.symm h_18)) q)
    exact law_tail C0 (by rw [← hAe]; exact hS) (Nat.le_of_ble_eq_true rfl) (Nat.le_of_ble_eq_true rfl) hl
  ·
    have tc_7 : ((xs 3).toInt : Int) ≠ 0 := fun q => c_7 (Int32.toInt_inj.mp q)
    refine lv_iconst (v := 1) hx hb dL_law_1526 (by decide) ?_
    refine lv_goto (tgt := 1531) hx hb dL_law_1527 (by decide) ?_
    refine vp_callSi (runV_r (As := [.int (xs 1), .int (xs 2), .int 1]) (rest := []) S (q_X_off l D cI cB cZ g (xs 1) (xs 2) 1) kV_RL_169 hK hP [0] rfl 0 rfl rfl rfl ⟨Nat.le_of_ble_eq_true rfl, Nat.le_of_ble_eq_true rfl⟩ ⟨Nat.le_of_ble_eq_true rfl, Nat.le_of_ble_eq_true rfl⟩ rfl hl.1 rfl (Nat.le_of_ble_eq_true rfl) dL_law_1531) (fun r_19 h_20 => ?_)
    refine lv_aload_n hx hb dL_law_1534 rfl (lv_at hl 2 rfl) ?_
    refine lv_aload_n hx hb dL_law_1535 rfl (lv_at hl 0 rfl) ?_
    refine lv_iload_n hx hb dL_law_1536 rfl (lv_at hl 3 rfl) ?_
    refine lv_iconst (v := 1) hx hb dL_law_1537 (by decide) ?_
    refine lv_iadd hx hb dL_law_1538 ?_
    refine lv_topi (fun y_21 ey_21 => ?_)
    obtain rfl : y_21 = 1 := ey_21.trans (by decide)
    refine va_sld hx hb hX hbl hbA hS (by unfold vp_in; decide) dL_law_1539 ?_
    refine lv_topi (fun y_22 ey_22 => ?_)
    obtain rfl : y_22 = (xs 1) := ey_22
    refine lv_aload_n hx hb dL_law_1540 rfl (lv_at hl 0 rfl) ?_
    refine lv_iload_n hx hb dL_law_1541 rfl (lv_at hl 3 rfl) ?_
    refine lv_iconst (v := 2) hx hb dL_law_1542 (by decide) ?_
    refine lv_iadd hx hb dL_law_1543 ?_
    refine lv_topi (fun y_23 ey_23 => ?_)
    obtain rfl : y_23 = 2 := ey_23.trans (by decide)
    refine va_sld hx hb hX hbl hbA hS (by unfold vp_in; decide) dL_law_1544 ?_
    refine lv_topi (fun y_24 ey_24 => ?_)
    obtain rfl : y_24 = (xs 2) := ey_24
    refine lv_aload_n hx hb dL_law_1545 rfl (lv_at hl 0 rfl) ?_
    refine lv_iload_n hx hb dL_law_1546 rfl (lv_at hl 3 rfl) ?_
    refine lv_iconst (v := 3) hx hb dL_law_1547 (by decide) ?_
    refine lv_iadd hx hb dL_law_1548 ?_
    refine lv_topi (fun y_25 ey_25 => ?_)
    obtain rfl : y_25 = 3 := ey_25.trans (by decide)
    refine va_sld hx hb hX hbl hbA hS (by unfold vp_in; decide) dL_law_1549 ?_
    refine lv_topi (fun y_26 ey_26 => ?_)
    obtain rfl : y_26 = (xs 3) := ey_26
    refine lv_if_eq (tgt := 1557) hx hb dL_law_1550 (by decide) (fun c_27 => ?_) (fun c_27 => ?_)
    ·
      have tc_27 : ((xs 3).toInt : Int) = 0 := congrArg Int32.toInt c_27
      refine lv_iconst (v := 0) hx hb dL_law_1557 (by decide) ?_
      refine vp_callSi (runV_r (As := [.int (xs 1), .int (xs 2), .int 0]) (rest := [.int r_19]) S (q_M_off l D cI cB cZ h (xs 1) (xs 2) 0) kV_RL_173 hK hP [29] rfl 29 rfl rfl rfl ⟨Nat.le_of_ble_eq_true rfl, Nat.le_of_ble_eq_true rfl⟩ ⟨Nat.le_of_ble_eq_true rfl, Nat.le_of_ble_eq_true rfl⟩ rfl hl.1 rfl (Nat.le_of_ble_eq_true rfl) dL_law_1558) (fun r_28 h_29 => ?_)
      refine lv_icmp_eq (tgt := 2272) hx hb dL_law_1561 (by decide) (fun _ => ?_) (fun q => absurd (Eq.trans h_20 (Eq.symm h_29)) q)
      exact law_tail C0 (by rw [← hAe]; exact hS) (Nat.le_of_ble_eq_true rfl) (Nat.le_of_ble_eq_true rfl) hl
    ·
      have tc_27 : ((xs 3).toInt : Int) ≠ 0 := fun q => c_27 (Int32.toInt_inj.mp q)
      refine lv_iconst (v := 1) hx hb dL_law_1553 (by decide) ?_
      refine lv_goto (tgt := 1558) hx hb dL_law_1554 (by decide) ?_
      refine vp_callSi (runV_r (As := [.int (xs 1), .int (xs 2), .int 1]) (rest := [.int r_19]) S (q_M_off l D cI cB cZ h (xs 1) (xs 2) 1) kV_RL_173 hK hP [29] rfl 29 rfl rfl rfl ⟨Nat.le_of_ble_eq_true rfl, Nat.le_of_ble_eq_true rfl⟩ ⟨Nat.le_of_ble_eq_true rfl, Nat.le_of_ble_eq_true rfl⟩ rfl hl.1 rfl (Nat.le_of_ble_eq_true rfl) dL_law_1558) (fun r_30 h_31 => ?_)
      refine lv_icmp_eq (tgt := 2272) hx hb dL_law_1561 (by decide) (fun _ => ?_) (fun q => absurd (Eq.trans h_20 (Eq.symm h_31)) q)
      exact law_tail C0 (by rw [← hAe]; exact hS) (Nat.le_of_ble_eq_true rfl) (Nat.le_of_ble_eq_true rfl) hl
set_option maxRecDepth 100000 in
set_option maxHeartbeats 4000000 in
theorem lawc_37 {p : Program} {l : Launch} {e : Env} {s : State} {m : MethodId} {below : List Frame} {meth : Method} {c : Code} {b : Nat} {xs : Nat → Int32} (C0 : lw_At p s m meth c b 7 xs) {D : va_G} {cI cB cZ : ClassId} {qq vv : Nat} {bt : Nat → Int32} {g h : Nat → Nat} (hK : KK D cI cB cZ s) (hXS : XS D (g 50) qq vv bt (fun q : Nat => s.heap.size ≤ q) s s.heap) {H : Heap} {locs : List Loc} (hP : va_P D vwCl (wXM cI cB g h) H) (hD : va_D (fun q : Nat => s.heap.size ≤ q) (wXM cI cB g h)) (hS : va_S (fun q : Nat => s.heap.size ≤ q) s.heap H locs) {ls : Array Slot} (hl : lv_has ls 4 [(0, .ref b), (1, .ref (g 0)), (2, .ref (h 100)), (3, .int 0)]) : W p l e room_1 s m #[Value.ref b] below meth c H locs 107 14457 (lw_Z below #[Value.ref b] s) (F0 m 1566 ls []) := by
  obtain ⟨hx, hb, hr, hml, hown, hts, hX, hbl, hlocks, hgv⟩ := id C0
  have S : SF p m c code 4 s #[Value.ref b] RL := ⟨hx, hb, hml, hown, fun w h => hts w (wT_lw h)⟩
  obtain ⟨A, hAe⟩ : ∃ A : Nat → Prop, A = (fun q : Nat => s.heap.size ≤ q) := ⟨_, rfl⟩
  rw [← hAe] at hXS hD hS
  have hA : ∀ q : Nat, s.heap.size ≤ q → A q := fun q h => by rw [hAe]; exact h
  have hbA : ¬ A b := by rw [hAe]; exact Nat.not_le.mpr hbl
  refine lv_aload_n hx hb dL_law_1566 rfl (lv_at hl 1 rfl) ?_
  refine lv_aload_n hx hb dL_law_1567 rfl (lv_at hl 0 rfl) ?_
  refine lv_iload_n hx hb dL_law_1568 rfl (lv_at hl 3 rfl) ?_
  refine lv_iconst (v := 1) hx hb dL_law_1569 (by decide) ?_
  refine lv_iadd hx hb dL_law_1570 ?_
  refine lv_topi (fun y_1 ey_1 => ?_)
  obtain rfl : y_1 = 1 := ey_1.trans (by decide)
  refine va_sld hx hb hX hbl hbA hS (by unfold vp_in; decide) dL_law_1571 ?_
  refine lv_topi (fun y_2 ey_2 => ?_)
  obtain rfl : y_2 = (xs 1) := ey_2
  refine lv_aload_n hx hb dL_law_1572 rfl (lv_at hl 0 rfl) ?_
  refine lv_iload_n hx hb dL_law_1573 rfl (lv_at hl 3 rfl) ?_
  refine lv_iconst (v := 2) hx hb dL_law_1574 (by decide) ?_
  refine lv_iadd hx hb dL_law_1575 ?_
  refine lv_topi (fun y_3 ey_3 => ?_)
  obtain rfl : y_3 = 2 := ey_3.trans (by decide)
  refine va_sld hx hb hX hbl hbA hS (by unfold vp_in; decide) dL_law_1576 ?_
  refine lv_topi (fun y_4 ey_4 => ?_)
  obtain rfl : y_4 = (xs 2) := ey_4
  refine lv_aload_n hx hb dL_law_1577 rfl (lv_at hl 0 rfl) ?_
  refine lv_iload_n hx hb dL_law_1578 rfl (lv_at hl 3 rfl) ?_
  refine lv_iconst (v := 3) hx hb dL_law_1579 (by decide) ?_
  refine lv_iadd hx hb dL_law_1580 ?_
  refine lv_topi (fun y_5 ey_5 => ?_)
  obtain rfl : y_5 = 3 := ey_5.trans (by decide)
  refine va_sld hx hb hX hbl hbA hS (by unfold vp_in; decide) dL_law_1581 ?_
  refine lv_topi (fun y_6 ey_6 => ?_)
  obtain rfl : y_6 = (xs 3) := ey_6
  have hFc := va_free (wc := [((g 0), .inr (12, oX g)), ((g 10), .inr (0, [.int 0, .ref (g 50), .int 0])), ((g 9), .inr (11, oW g)), ((g 32), .inl (cI, 8, .inl (fun _ => 0))), ((g 33), .inl (cI, 8, .inl (fun _ => 0))), ((g 35), .inl (cI, 256, .inl (fun _ => 0)))]) hD hS hA [0, 23, 16, 19, 20, 22] rfl
  refine va_calli (runV_w (As := [.int (xs 1), .int (xs 2), .int (xs 3)]) (rest := []) S (q_X_shared l D cI cB cZ g (xs 1) (xs 2) (xs 3) H.size) kV_RL_174 hK hP hD [0, 23, 16, 19, 20, 22] rfl rfl (by decide) 0 rfl rfl rfl ⟨Nat.le_of_ble_eq_true rfl, Nat.le_of_ble_eq_true rfl⟩ ⟨Nat.le_of_ble_eq_true rfl, Nat.le_of_ble_eq_true rfl⟩ rfl hl.1 rfl (Nat.le_of_ble_eq_true rfl) dL_law_1582) hS (fun q _ h => hFc q h) hFc (fun r_7 u_8 t H1 locs ht hvm h_9 hB hz1 hk1 hS => ?_)
  have hP1 : va_P D vwCl [] H1 := fun k q h => by simp at h
  have hD1 : va_D (va_A [((g 0), .inr (12, oX g)), ((g 10), .inr (0, [.int 0, .ref (g 50), .int 0])), ((g 9), .inr (11, oW g)), ((g 32), .inl (cI, 8, .inl (fun _ => 0))), ((g 33), .inl (cI, 8, .inl (fun _ => 0))), ((g 35), .inl (cI, 256, .inl (fun _ => 0)))] H.size) [] := ⟨fun i j p q h => by simp at h, fun k q h => by simp at h⟩
  obtain ⟨hP, hD⟩ := va_join (wr := [((h 100), .inr (13, oM h)), ((h 48), .inl (cI, 3, .inl (fun _ => 0))), ((h 49), .inl (cI, 3, .inl (fun _ => 0)))]) (w1 := []) hP hD [0, 23, 16, 19, 20, 22] [29, 39, 40] rfl rfl (by decide) (by decide) hk1 hFc hP1 hD1
  generalize H1 = H at hP hS ⊢
  have hP : va_P D vwCl [((h 100), .inr (13, oM h)), ((h 48), .inl (cI, 3, .inl (fun _ => 0))), ((h 49), .inl (cI, 3, .inl (fun _ => 0)))] H := hP
  have hD : va_D A [((h 100), .inr (13, oM h)), ((h 48), .inl (cI, 3, .inl (fun _ => 0))), ((h 49), .inl (cI, 3, .inl (fun _ => 0)))] := hD
  refine lv_aload_n hx hb dL_law_1585 rfl (lv_at hl 2 rfl) ?_
  refine lv_aload_n hx hb dL_law_1586 rfl (lv_at hl 0 rfl) ?_
  refine lv_iload_n hx hb dL_law_1587 rfl (lv_at hl 3 rfl) ?_
  refine lv_iconst (v := 1) hx hb dL_law_1588 (by decide) ?_
  refine lv_iadd hx hb dL_law_1589 ?_
  refine lv_topi (fun y_10 ey_10 => ?_)
  obtain rfl : y_10 = 1 := ey_10.trans (by decide)
  refine va_sld hx hb hX hbl hbA hS (by unfold vp_in; decide) dL_law_1590 ?_
  refine lv_topi (fun y_11 ey_11 => ?_)
  obtain rfl : y_11 = (xs 1) := ey_11
  refine lv_aload_n hx hb dL_law_1591 rfl (lv_at hl 0 rfl) ?_
  refine lv_iload_n hx hb dL_law_1592 rfl (lv_at hl 3 rfl) ?_
  refine lv_iconst (v := 2) hx hb dL_law_1593 (by decide) ?_
  refine lv_iadd hx hb dL_law_1594 ?_
  refine lv_topi (fun y_12 ey_12 => ?_)
  obtain rfl : y_12 = 2 := ey_12.trans (by decide)
  refine va_sld hx hb hX hbl hbA hS (by unfold vp_in; decide) dL_law_1595 ?_
  refine lv_topi (fun y_13 ey_13 => ?_)
  obtain rfl : y_13 = (xs 2) := ey_13
  refine lv_aload_n hx hb dL_law_1596 rfl (lv_at hl 0 rfl) ?_
  refine lv_iload_n hx hb dL_law_1597 rfl (lv_at hl 3 rfl) ?_
  refine lv_iconst (v := 3) hx hb dL_law_1598 (by decide) ?_
  refine lv_iadd hx hb dL_law_1599 ?_
  refine lv_topi (fun y_14 ey_14 => ?_)
  obtain rfl : y_14 = 3 := ey_14.trans (by decide)
  refine va_sld hx hb hX hbl hbA hS (by unfold vp_in; decide) dL_law_1600 ?_
  refine lv_topi (fun y_15 ey_15 => ?_)
  obtain rfl : y_15 = (xs 3) := ey_15
  have hFc := va_free (wc := [((h 100), .inr (13, oM h)), ((h 48), .inl (cI, 3, .inl (fun _ => 0))), ((h 49), .inl (cI, 3, .inl (fun _ => 0)))]) hD hS hA [0, 1, 2] rfl
  refine va_calli (runV_w (As := [.int (xs 1), .int (xs 2), .int (xs 3)]) (rest := [.int r_7]) S (q_M_shared l D cI cB cZ h (xs 1) (xs 2) (xs 3) H.size) kV_RL_177 hK hP hD [0, 1, 2] rfl rfl (by decide) 0 rfl rfl rfl ⟨Nat.le_of_ble_eq_true rfl, Nat.le_of_ble_eq_true rfl⟩ ⟨Nat.le_of_ble_eq_true rfl, Nat.le_of_ble_eq_true rfl⟩ rfl hl.1 rfl (Nat.le_of_ble_eq_true rfl) dL_law_1601) hS (fun q _ h => hFc q h) hFc (fun r_16 u_17 t H1 locs ht hvm h_18 hB hz1 hk1 hS => ?_)
  have hP1 : va_P D vwCl [] H1 := fun k q h => by simp at h
  have hD1 : va_D (va_A [((h 100), .inr (13, oM h)), ((h 48), .inl (cI, 3, .inl (fun _ => 0))), ((h 49), .inl (cI, 3, .inl (fun _ => 0)))] H.size) [] := ⟨fun i j p q h => by simp at h, fun k q h => by simp at h⟩
  obtain ⟨hP, hD⟩ := va_join (wr := []) (w1 := []) hP hD [0, 1, 2] [] rfl rfl (by decide) (by decide) hk1 hFc hP1 hD1
  generalize H1 = H at hP hS ⊢
  have hP : va_P D vwCl [] H := hP
  have hD : va_D A [] := hD
  refine lv_icmp_eq (tgt := 2272) hx hb dL_law_1604 (by decide) (fun _ => ?_) (fun q => absurd (Eq.trans h_9 (Eq.symm h_18)) q)
  exact law_tail C0 (by rw [← hAe]; exact hS) (Nat.le_of_ble_eq_true rfl) (Nat.le_of_ble_eq_true rfl) hl
set_option maxRecDepth 100000 in
set_option maxHeartbeats 4000000 in
theorem lawc_38 {p : Program} {l : Launch} {e : Env} {s : State} {m : MethodId} {below : List Frame} {meth : Method} {c : Code} {b : Nat} {xs : Nat → Int32} (C0 : lw_At p s m meth c b 7 xs) {D : va_G} {cI cB cZ : ClassId} {qq vv : Nat} {bt : Nat → Int32} {g h : Nat → Nat} (hK : KK D cI cB cZ s) (hXS : XS D (g 50) qq vv bt (fun q : Nat => s.heap.size ≤ q) s s.heap) {H : Heap} {locs : List Loc} (hP : va_P D vwCl (wXM cI cB g h) H) (hD : va_D (fun q : Nat => s.heap.size ≤ q) (wXM cI cB g h)) (hS : va_S (fun q : Nat => s.heap.size ≤ q) s.heap H locs) {ls : Array Slot} (hl : lv_has ls 4 [(0, .ref b), (1, .ref (g 0)), (2, .ref (h 100)), (3, .int 0)]) : W p l e room_1 s m #[Value.ref b] below meth c H locs 107 14457 (lw_Z below #[Value.ref b] s) (F0 m 1609 ls []) := by
  obtain ⟨hx, hb, hr, hml, hown, hts, hX, hbl, hlocks, hgv⟩ := id C0
  have S : SF p m c code 4 s #[Value.ref b] RL := ⟨hx, hb, hml, hown, fun w h => hts w (wT_lw h)⟩
  obtain ⟨A, hAe⟩ : ∃ A : Nat → Prop, A = (fun q : Nat => s.heap.size ≤ q) := ⟨_, rfl⟩
  rw [← hAe] at hXS hD hS
  have hA : ∀ q : Nat, s.heap.size ≤ q → A q := fun q h => by rw [hAe]; exact h
  have hbA : ¬ A b := by rw [hAe]; exact Nat.not_le.mpr hbl
  refine lv_aload_n hx hb dL_law_1609 rfl (lv_at hl 1 rfl) ?_
  refine lv_aload_n hx hb dL_law_1610 rfl (lv_at hl 0 rfl) ?_
  refine lv_iload_n hx hb dL_law_1611 rfl (lv_at hl 3 rfl) ?_
  refine lv_iconst (v := 1) hx hb dL_law_1612 (by decide) ?_
  refine lv_iadd hx hb dL_law_1613 ?_
  refine lv_topi (fun y_1 ey_1 => ?_)
  obtain rfl : y_1 = 1 := ey_1.trans (by decide)
  refine va_sld hx hb hX hbl hbA hS (by unfold vp_in; decide) dL_law_1614 ?_
  refine lv_topi (fun y_2 ey_2 => ?_)
  obtain rfl : y_2 = (xs 1) := ey_2
  refine lv_aload_n hx hb dL_law_1615 rfl (lv_at hl 0 rfl) ?_
  refine lv_iload_n hx hb dL_law_1616 rfl (lv_at hl 3 rfl) ?_
  refine lv_iconst (v := 2) hx hb dL_law_1617 (by decide) ?_
  refine lv_iadd hx hb dL_law_1618 ?_
  refine lv_topi (fun y_3 ey_3 => ?_)
  obtain rfl : y_3 = 2 := ey_3.trans (by decide)
  refine va_sld hx hb hX hbl hbA hS (by unfold vp_in; decide) dL_law_1619 ?_
  refine lv_topi (fun y_4 ey_4 => ?_)
  obtain rfl : y_4 = (xs 2) := ey_4
  refine lv_aload_n hx hb dL_law_1620 rfl (lv_at hl 0 rfl) ?_
  refine lv_iload_n hx hb dL_law_1621 rfl (lv_at hl 3 rfl) ?_
  refine lv_iconst (v := 3) hx hb dL_law_1622 (by decide) ?_
  refine lv_iadd hx hb dL_law_1623 ?_
  refine lv_topi (fun y_5 ey_5 => ?_)
  obtain rfl : y_5 = 3 := ey_5.trans (by decide)
  refine va_sld hx hb hX hbl hbA hS (by unfold vp_in; decide) dL_law_1624 ?_
  refine lv_topi (fun y_6 ey_6 => ?_)
  obtain rfl : y_6 = (xs 3) := ey_6
  refine lv_aload_n hx hb dL_law_1625 rfl (lv_at hl 0 rfl) ?_
  refine lv_iload_n hx hb dL_law_1626 rfl (lv_at hl 3 rfl) ?_
  refine lv_iconst (v := 4) hx hb dL_law_1627 (by decide) ?_
  refine lv_iadd hx hb dL_law_1628 ?_
  refine lv_topi (fun y_7 ey_7 => ?_)
  obtain rfl : y_7 = 4 := ey_7.trans (by decide)
  refine va_sld hx hb hX hbl hbA hS (by unfold vp_in; decide) dL_law_1629 ?_
  refine lv_topi (fun y_8 ey_8 => ?_)
  obtain rfl : y_8 = (xs 4) := ey_8
  have hFc := va_free (wc := [((g 0), .inr (12, oX g)), ((g 10), .inr (0, [.int 0, .ref (g 50), .int 0])), ((g 9), .inr (11, oW g)), ((g 32), .inl (cI, 8, .inl (fun _ => 0))), ((g 33), .inl (cI, 8, .inl (fun _ => 0))), ((g 35), .inl (cI, 256, .inl (fun _ => 0)))]) hD hS hA [0, 23, 16, 19, 20, 22] rfl
  refine va_calli (runV_w (As := [.int (xs 1), .int (xs 2), .int (xs 3), .int (xs 4)]) (rest := []) S (q_X_nights l D cI cB cZ g (xs 1) (xs 2) (xs 3) (xs 4) H.size) kV_RL_178 hK hP hD [0, 23, 16, 19, 20, 22] rfl rfl (by decide) 0 rfl rfl rfl ⟨Nat.le_of_ble_eq_true rfl, Nat.le_of_ble_eq_true rfl⟩ ⟨Nat.le_of_ble_eq_true rfl, Nat.le_of_ble_eq_true rfl⟩ rfl hl.1 rfl (Nat.le_of_ble_eq_true rfl) dL_law_1630) hS (fun q _ h => hFc q h) hFc (fun r_9 u_10 t H1 locs ht hvm h_11 hB hz1 hk1 hS => ?_)
  have hP1 : va_P D vwCl [] H1 := fun k q h => by simp at h
  have hD1 : va_D (va_A [((g 0), .inr (12, oX g)), ((g 10), .inr (0, [.int 0, .ref (g 50), .int 0])), ((g 9), .inr (11, oW g)), ((g 32), .inl (cI, 8, .inl (fun _ => 0))), ((g 33), .inl (cI, 8, .inl (fun _ => 0))), ((g 35), .inl (cI, 256, .inl (fun _ => 0)))] H.size) [] := ⟨fun i j p q h => by simp at h, fun k q h => by simp at h⟩
  obtain ⟨hP, hD⟩ := va_join (wr := [((h 100), .inr (13, oM h))]) (w1 := []) hP hD [0, 23, 16, 19, 20, 22] [29] rfl rfl (by decide) (by decide) hk1 hFc hP1 hD1
  generalize H1 = H at hP hS ⊢
  have hP : va_P D vwCl [((h 100), .inr (13, oM h))] H := hP
  have hD : va_D A [((h 100), .inr (13, oM h))] := hD
  refine lv_aload_n hx hb dL_law_1633 rfl (lv_at hl 2 rfl) ?_
  refine lv_aload_n hx hb dL_law_1634 rfl (lv_at hl 0 rfl) ?_
  refine lv_iload_n hx hb dL_law_1635 rfl (lv_at hl 3 rfl) ?_
  refine lv_iconst (v := 1) hx hb dL_law_1636 (by decide) ?_
  refine lv_iadd hx hb dL_law_1637 ?_
  refine lv_topi (fun y_12 ey_12 => ?_)
  obtain rfl : y_12 = 1 := ey_12.trans (by decide)
  refine va_sld hx hb hX hbl hbA hS (by unfold vp_in; decide) dL_law_1638 ?_
  refine lv_topi (fun y_13 ey_13 => ?_)
  obtain rfl : y_13 = (xs 1) := ey_13
  refine lv_aload_n hx hb dL_law_1639 rfl (lv_at hl 0 rfl) ?_
  refine lv_iload_n hx hb dL_law_1640 rfl (lv_at hl 3 rfl) ?_
  refine lv_iconst (v := 2) hx hb dL_law_1641 (by decide) ?_
  refine lv_iadd hx hb dL_law_1642 ?_
  refine lv_topi (fun y_14 ey_14 => ?_)
  obtain rfl : y_14 = 2 := ey_14.trans (by decide)
  refine va_sld hx hb hX hbl hbA hS (by unfold vp_in; decide) dL_law_1643 ?_
  refine lv_topi (fun y_15 ey_15 => ?_)
  obtain rfl : y_15 = (xs 2) := ey_15
  refine lv_aload_n hx hb dL_law_1644 rfl (lv_at hl 0 rfl) ?_
  refine lv_iload_n hx hb dL_law_1645 rfl (lv_at hl 3 rfl) ?_
  refine lv_iconst (v := 3) hx hb dL_law_1646 (by decide) ?_
  refine lv_iadd hx hb dL_law_1647 ?_
  refine lv_topi (fun y_16 ey_16 => ?_)
  obtain rfl : y_16 = 3 := ey_16.trans (by decide)
  refine va_sld hx hb hX hbl hbA hS (by unfold vp_in; decide) dL_law_1648 ?_
  refine lv_topi (fun y_17 ey_17 => ?_)
  obtain rfl : y_17 = (xs 3) := ey_17
  refine lv_aload_n hx hb dL_law_1649 rfl (lv_at hl 0 rfl) ?_
  refine lv_iload_n hx hb dL_law_1650 rfl (lv_at hl 3 rfl) ?_
  refine lv_iconst (v := 4) hx hb dL_law_1651 (by decide) ?_
  refine lv_iadd hx hb dL_law_1652 ?_
  refine lv_topi (fun y_18 ey_18 => ?_)
  obtain rfl : y_18 = 4 := ey_18.trans (by decide)
  refine va_sld hx hb hX hbl hbA hS (by unfold vp_in; decide) dL_law_1653 ?_
  refine lv_topi (fun y_19 ey_19 => ?_)
  obtain rfl : y_19 = (xs 4) := ey_19
  have hFc := va_free (wc := [((h 100), .inr (13, oM h))]) hD hS hA [0] rfl
  refine va_calli (runV_w (As := [.int (xs 1), .int (xs 2), .int (xs 3), .int (xs 4)]) (rest := [.int r_9]) S (q_M_nights l D cI cB cZ h (xs 1) (xs 2) (xs 3) (xs 4) H.size) kV_RL_181 hK hP hD [0] rfl rfl (by decide) 0 rfl rfl rfl ⟨Nat.le_of_ble_eq_true rfl, Nat.le_of_ble_eq_true rfl⟩ ⟨Nat.le_of_ble_eq_true rfl, Nat.le_of_ble_eq_true rfl⟩ rfl hl.1 rfl (Nat.le_of_ble_eq_true rfl) dL_law_1654) hS (fun q _ h => hFc q h) hFc (fun r_20 u_21 t H1 locs ht hvm h_22 hB hz1 hk1 hS => ?_)
  have hP1 : va_P D vwCl [] H1 := fun k q h => by simp at h
  have hD1 : va_D (va_A [((h 100), .inr (13, oM h))] H.size) [] := ⟨fun i j p q h => by simp at h, fun k q h => by simp at h⟩
  obtain ⟨hP, hD⟩ := va_join (wr := []) (w1 := []) hP hD [0] [] rfl rfl (by decide) (by decide) hk1 hFc hP1 hD1
  generalize H1 = H at hP hS ⊢
  have hP : va_P D vwCl [] H := hP
  have hD : va_D A [] := hD
  refine lv_icmp_eq (tgt := 2272) hx hb dL_law_1657 (by decide) (fun _ => ?_) (fun q => absurd (Eq.trans h_11 (Eq.symm h_22)) q)
  exact law_tail C0 (by rw [← hAe]; exact hS) (Nat.le_of_ble_eq_true rfl) (Nat.le_of_ble_eq_true rfl) hl
set_option maxRecDepth 100000 in
set_option maxHeartbeats 4000000 in
theorem lawc_39 {p : Program} {l : Launch} {e : Env} {s : State} {m : MethodId} {below : List Frame} {meth : Method} {c : Code} {b : Nat} {xs : Nat → Int32} (C0 : lw_At p s m meth c b 7 xs) {D : va_G} {cI cB cZ : ClassId} {qq vv : Nat} {bt : Nat → Int32} {g h : Nat → Nat} (hK : KK D cI cB cZ s) (hXS : XS D (g 50) qq vv bt (fun q : Nat => s.heap.size ≤ q) s s.heap) {H : Heap} {locs : List Loc} (hP : va_P D vwCl (wXM cI cB g h) H) (hD : va_D (fun q : Nat => s.heap.size ≤ q) (wXM cI cB g h)) (hS : va_S (fun q : Nat => s.heap.size ≤ q) s.heap H locs) {ls : Array Slot} (hl : lv_has ls 4 [(0, .ref b), (1, .ref (g 0)), (2, .ref (h 100)), (3, .int 0)]) : W p l e room_1 s m #[Value.ref b] below meth c H locs 107 14457 (lw_Z below #[Value.ref b] s) (F0 m 1662 ls []) := by
  obtain ⟨hx, hb, hr, hml, hown, hts, hX, hbl, hlocks, hgv⟩ := id C0
  have S : SF p m c code 4 s #[Value.ref b] RL := ⟨hx, hb, hml, hown, fun w h => hts w (wT_lw h)⟩
  obtain ⟨A, hAe⟩ : ∃ A : Nat → Prop, A = (fun q : Nat => s.heap.size ≤ q) := ⟨_, rfl⟩
  rw [← hAe] at hXS hD hS
  have hA : ∀ q : Nat, s.heap.size ≤ q → A q := fun q h => by rw [hAe]; exact h
  have hbA : ¬ A b := by rw [hAe]; exact Nat.not_le.mpr hbl
  refine lv_aload_n hx hb dL_law_1662 rfl (lv_at hl 1 rfl) ?_
  refine lv_aload_n hx hb dL_law_1663 rfl (lv_at hl 0 rfl) ?_
  refine lv_iload_n hx hb dL_law_1664 rfl (lv_at hl 3 rfl) ?_
  refine lv_iconst (v := 1) hx hb dL_law_1665 (by decide) ?_
  refine lv_iadd hx hb dL_law_1666 ?_
  refine lv_topi (fun y_1 ey_1 => ?_)
  obtain rfl : y_1 = 1 := ey_1.trans (by decide)
  refine va_sld hx hb hX hbl hbA hS (by unfold vp_in; decide) dL_law_1667 ?_
  refine lv_topi (fun y_2 ey_2 => ?_)
  obtain rfl : y_2 = (xs 1) := ey_2
  refine lv_aload_n hx hb dL_law_1668 rfl (lv_at hl 0 rfl) ?_
  refine lv_iload_n hx hb dL_law_1669 rfl (lv_at hl 3 rfl) ?_
  refine lv_iconst (v := 2) hx hb dL_law_1670 (by decide) ?_
  refine lv_iadd hx hb dL_law_1671 ?_
  refine lv_topi (fun y_3 ey_3 => ?_)
  obtain rfl : y_3 = 2 := ey_3.trans (by decide)
  refine va_sld hx hb hX hbl hbA hS (by unfold vp_in; decide) dL_law_1672 ?_
  refine lv_topi (fun y_4 ey_4 => ?_)
  obtain rfl : y_4 = (xs 2) := ey_4
  have hFc := va_free (wc := [((g 0), .inr (12, oX g)), ((g 8), .inr (8, oT g)), ((g 23), .inl (cI, 400, .inl (fun _ => 0)))]) hD hS hA [0, 5, 9] rfl
  refine va_calli (runV_w (As := [.int (xs 1), .int (xs 2)]) (rest := []) S (q_X_feast l D cI cB cZ g (xs 1) (xs 2) H.size) kV_RL_182 hK hP hD [0, 5, 9] rfl rfl (by decide) 0 rfl rfl rfl ⟨Nat.le_of_ble_eq_true rfl, Nat.le_of_ble_eq_true rfl⟩ ⟨Nat.le_of_ble_eq_true rfl, Nat.le_of_ble_eq_true rfl⟩ rfl hl.1 rfl (Nat.le_of_ble_eq_true rfl) dL_law_1673) hS (fun q _ h => hFc q h) hFc (fun r_5 u_6 t H1 locs ht hvm h_7 hB hz1 hk1 hS => ?_)
  have hP1 : va_P D vwCl [] H1 := fun k q h => by simp at h
  have hD1 : va_D (va_A [((g 0), .inr (12, oX g)), ((g 8), .inr (8, oT g)), ((g 23), .inl (cI, 400, .inl (fun _ => 0)))] H.size) [] := ⟨fun i j p q h => by simp at h, fun k q h => by simp at h⟩
  obtain ⟨hP, hD⟩ := va_join (wr := [((h 100), .inr (13, oM h)), ((h 41), .inl (cI, 400, .inl (fun _ => 0)))]) (w1 := []) hP hD [0, 5, 9] [29, 37] rfl rfl (by decide) (by decide) hk1 hFc hP1 hD1
  generalize H1 = H at hP hS ⊢
  have hP : va_P D vwCl [((h 100), .inr (13, oM h)), ((h 41), .inl (cI, 400, .inl (fun _ => 0)))] H := hP
  have hD : va_D A [((h 100), .inr (13, oM h)), ((h 41), .inl (cI, 400, .inl (fun _ => 0)))] := hD
  refine lv_aload_n hx hb dL_law_1676 rfl (lv_at hl 2 rfl) ?_
  refine lv_aload_n hx hb dL_law_1677 rfl (lv_at hl 0 rfl) ?_
  refine lv_iload_n hx hb dL_law_1678 rfl (lv_at hl 3 rfl) ?_
  refine lv_iconst (v := 1) hx hb dL_law_1679 (by decide) ?_
  refine lv_iadd hx hb dL_law_1680 ?_
  refine lv_topi (fun y_8 ey_8 => ?_)
  obtain rfl : y_8 = 1 := ey_8.trans (by decide)
  refine va_sld hx hb hX hbl hbA hS (by unfold vp_in; decide) dL_law_1681 ?_
  refine lv_topi (fun y_9 ey_9 => ?_)
  obtain rfl : y_9 = (xs 1) := ey_9
  refine lv_aload_n hx hb dL_law_1682 rfl (lv_at hl 0 rfl) ?_
  refine lv_iload_n hx hb dL_law_1683 rfl (lv_at hl 3 rfl) ?_
  refine lv_iconst (v := 2) hx hb dL_law_1684 (by decide) ?_
  refine lv_iadd hx hb dL_law_1685 ?_
  refine lv_topi (fun y_10 ey_10 => ?_)
  obtain rfl : y_10 = 2 := ey_10.trans (by decide)
  refine va_sld hx hb hX hbl hbA hS (by unfold vp_in; decide) dL_law_1686 ?_
  refine lv_topi (fun y_11 ey_11 => ?_)
  obtain rfl : y_11 = (xs 2) := ey_11
  have hFc := va_free (wc := [((h 100), .inr (13, oM h)), ((h 41), .inl (cI, 400, .inl (fun _ => 0)))]) hD hS hA [0, 1] rfl
  refine va_calli (runV_w (As := [.int (xs 1), .int (xs 2)]) (rest := [.int r_5]) S (q_M_feast l D cI cB cZ h (xs 1) (xs 2) H.size) kV_RL_185 hK hP hD [0, 1] rfl rfl (by decide) 0 rfl rfl rfl ⟨Nat.le_of_ble_eq_true rfl, Nat.le_of_ble_eq_true rfl⟩ ⟨Nat.le_of_ble_eq_true rfl, Nat.le_of_ble_eq_true rfl⟩ rfl hl.1 rfl (Nat.le_of_ble_eq_true rfl) dL_law_1687) hS (fun q _ h => hFc q h) hFc (fun r_12 u_13 t H1 locs ht hvm h_14 hB hz1 hk1 hS => ?_)
  have hP1 : va_P D vwCl [] H1 := fun k q h => by simp at h
  have hD1 : va_D (va_A [((h 100), .inr (13, oM h)), ((h 41), .inl (cI, 400, .inl (fun _ => 0)))] H.size) [] := ⟨fun i j p q h => by simp at h, fun k q h => by simp at h⟩
  obtain ⟨hP, hD⟩ := va_join (wr := []) (w1 := []) hP hD [0, 1] [] rfl rfl (by decide) (by decide) hk1 hFc hP1 hD1
  generalize H1 = H at hP hS ⊢
  have hP : va_P D vwCl [] H := hP
  have hD : va_D A [] := hD
  refine lv_icmp_eq (tgt := 2272) hx hb dL_law_1690 (by decide) (fun _ => ?_) (fun q => absurd (Eq.trans h_7 (Eq.symm h_14)) q)
  exact law_tail C0 (by rw [← hAe]; exact hS) (Nat.le_of_ble_eq_true rfl) (Nat.le_of_ble_eq_true rfl) hl
set_option maxRecDepth 100000 in
set_option maxHeartbeats 4000000 in
theorem lawc_40 {p : Program} {l : Launch} {e : Env} {s : State} {m : MethodId} {below : List Frame} {meth : Method} {c : Code} {b : Nat} {xs : Nat → Int32} (C0 : lw_At p s m meth c b 7 xs) {D : va_G} {cI cB cZ : ClassId} {qq vv : Nat} {bt : Nat → Int32} {g h : Nat → Nat} (hK : KK D cI cB cZ s) (hXS : XS D (g 50) qq vv bt (fun q : Nat => s.heap.size ≤ q) s s.heap) {H : Heap} {locs : List Loc} (hP : va_P D vwCl (wXM cI cB g h) H) (hD : va_D (fun q : Nat => s.heap.size ≤ q) (wXM cI cB g h)) (hS : va_S (fun q : Nat => s.heap.size ≤ q) s.heap H locs) {ls : Array Slot} (hl : lv_has ls 4 [(0, .ref b), (1, .ref (g 0)), (2, .ref (h 100)), (3, .int 0)]) : W p l e room_1 s m #[Value.ref b] below meth c H locs 107 14457 (lw_Z below #[Value.ref b] s) (F0 m 1695 ls []) := by
  obtain ⟨hx, hb, hr, hml, hown, hts, hX, hbl, hlocks, hgv⟩ := id C0
  have S : SF p m c code 4 s #[Value.ref b] RL := ⟨hx, hb, hml, hown, fun w h => hts w (wT_lw h)⟩
  obtain ⟨A, hAe⟩ : ∃ A : Nat → Prop, A = (fun q : Nat => s.heap.size ≤ q) := ⟨_, rfl⟩
  rw [← hAe] at hXS hD hS
  have hA : ∀ q : Nat, s.heap.size ≤ q → A q := fun q h => by rw [hAe]; exact h
  have hbA : ¬ A b := by rw [hAe]; exact Nat.not_le.mpr hbl
  refine lv_aload_n hx hb dL_law_1695 rfl (lv_at hl 1 rfl) ?_
  refine lv_aload_n hx hb dL_law_1696 rfl (lv_at hl 0 rfl) ?_
  refine lv_iload_n hx hb dL_law_1697 rfl (lv_at hl 3 rfl) ?_
  refine lv_iconst (v := 1) hx hb dL_law_1698 (by decide) ?_
  refine lv_iadd hx hb dL_law_1699 ?_
  refine lv_topi (fun y_1 ey_1 => ?_)
  obtain rfl : y_1 = 1 := ey_1.trans (by decide)
  refine va_sld hx hb hX hbl hbA hS (by unfold vp_in; decide) dL_law_1700 ?_
  refine lv_topi (fun y_2 ey_2 => ?_)
  obtain rfl : y_2 = (xs 1) := ey_2
  refine lv_aload_n hx hb dL_law_1701 rfl (lv_at hl 0 rfl) ?_
  refine lv_iload_n hx hb dL_law_1702 rfl (lv_at hl 3 rfl) ?_
  refine lv_iconst (v := 2) hx hb dL_law_1703 (by decide) ?_
  refine lv_iadd hx hb dL_law_1704 ?_
  refine lv_topi (fun y_3 ey_3 => ?_)
  obtain rfl : y_3 = 2 := ey_3.trans (by decide)
  refine va_sld hx hb hX hbl hbA hS (by unfold vp_in; decide) dL_law_1705 ?_
  refine lv_topi (fun y_4 ey_4 => ?_)
  obtain rfl : y_4 = (xs 2) := ey_4
  refine vp_callSi (runV_r (As := [.int (xs 1), .int (xs 2)]) (rest := []) S (q_X_feasted l D cI cB cZ g (xs 1) (xs 2)) kV_RL_186 hK hP [0, 23, 24] rfl 0 rfl rfl rfl ⟨Nat.le_of_ble_eq_true rfl, Nat.le_of_ble_eq_true rfl⟩ ⟨Nat.le_of_ble_eq_true rfl, Nat.le_of_ble_eq_true rfl⟩ rfl hl.1 rfl (Nat.le_of_ble_eq_true rfl) dL_law_1706) (fun r_5 h_6 => ?_)
  refine lv_aload_n hx hb dL_law_1709 rfl (lv_at hl 2 rfl) ?_
  refine lv_aload_n hx hb dL_law_1710 rfl (lv_at hl 0 rfl) ?_
  refine lv_iload_n hx hb dL_law_1711 rfl (lv_at hl 3 rfl) ?_
  refine lv_iconst (v := 1) hx hb dL_law_1712 (by decide) ?_
  refine lv_iadd hx hb dL_law_1713 ?_
  refine lv_topi (fun y_7 ey_7 => ?_)
  obtain rfl : y_7 = 1 := ey_7.trans (by decide)
  refine va_sld hx hb hX hbl hbA hS (by unfold vp_in; decide) dL_law_1714 ?_
  refine lv_topi (fun y_8 ey_8 => ?_)
  obtain rfl : y_8 = (xs 1) := ey_8
  refine lv_aload_n hx hb dL_law_1715 rfl (lv_at hl 0 rfl) ?_
  refine lv_iload_n hx hb dL_law_1716 rfl (lv_at hl 3 rfl) ?_
  refine lv_iconst (v := 2) hx hb dL_law_1717 (by decide) ?_
  refine lv_iadd hx hb dL_law_1718 ?_
  refine lv_topi (fun y_9 ey_9 => ?_)
  obtain rfl : y_9 = 2 := ey_9.trans (by decide)
  refine va_sld hx hb hX hbl hbA hS (by unfold vp_in; decide) dL_law_1719 ?_
  refine lv_topi (fun y_10 ey_10 => ?_)
  obtain rfl : y_10 = (xs 2) := ey_10
  refine vp_callSi (runV_r (As := [.int (xs 1), .int (xs 2)]) (rest := [.int r_5]) S (q_M_feasted l D cI cB cZ h (xs 1) (xs 2)) kV_RL_189 hK hP [29] rfl 29 rfl rfl rfl ⟨Nat.le_of_ble_eq_true rfl, Nat.le_of_ble_eq_true rfl⟩ ⟨Nat.le_of_ble_eq_true rfl, Nat.le_of_ble_eq_true rfl⟩ rfl hl.1 rfl (Nat.le_of_ble_eq_true rfl) dL_law_1720) (fun r_11 h_12 => ?_)
  refine lv_icmp_eq (tgt := 2272) hx hb dL_law_1723 (by decide) (fun _ => ?_) (fun q => absurd (Eq.trans h_6 (Eq.symm h_12)) q)
  exact law_tail C0 (by rw [← hAe]; exact hS) (Nat.le_of_ble_eq_true rfl) (Nat.le_of_ble_eq_true rfl) hl
set_option maxRecDepth 100000 in
set_option maxHeartbeats 4000000 in
theorem lawc_41 {p : Program} {l : Launch} {e : Env} {s : State} {m : MethodId} {below : List Frame} {meth : Method} {c : Code} {b : Nat} {xs : Nat → Int32} (C0 : lw_At p s m meth c b 7 xs) {D : va_G} {cI cB cZ : ClassId} {qq vv : Nat} {bt : Nat → Int32} {g h : Nat → Nat} (hK : KK D cI cB cZ s) (hXS : XS D (g 50) qq vv bt (fun q : Nat => s.heap.size ≤ q) s s.heap) {H : Heap} {locs : List Loc} (hP : va_P D vwCl (wXM cI cB g h) H) (hD : va_D (fun q : Nat => s.heap.size ≤ q) (wXM cI cB g h)) (hS : va_S (fun q : Nat => s.heap.size ≤ q) s.heap H locs) {ls : Array Slot} (hl : lv_has ls 4 [(0, .ref b), (1, .ref (g 0)), (2, .ref (h 100)), (3, .int 0)]) : W p l e room_1 s m #[Value.ref b] below meth c H locs 107 14457 (lw_Z below #[Value.ref b] s) (F0 m 1728 ls []) := by
  obtain ⟨hx, hb, hr, hml, hown, hts, hX, hbl, hlocks, hgv⟩ := id C0
  have S : SF p m c code 4 s #[Value.ref b] RL := ⟨hx, hb, hml, hown, fun w h => hts w (wT_lw h)⟩
  obtain ⟨A, hAe⟩ : ∃ A : Nat → Prop, A = (fun q : Nat => s.heap.size ≤ q) := ⟨_, rfl⟩
  rw [← hAe] at hXS hD hS
  have hA : ∀ q : Nat, s.heap.size ≤ q → A q := fun q h => by rw [hAe]; exact h
  have hbA : ¬ A b := by rw [hAe]; exact Nat.not_le.mpr hbl
  refine lv_aload_n hx hb dL_law_1728 rfl (lv_at hl 1 rfl) ?_
  have hFc := va_free (wc := [((g 0), .inr (12, oX g))]) hD hS hA [0] rfl
  refine va_calli (runV_w (As := []) (rest := []) S (q_X_drum l D cI cB cZ g H.size) kV_RL_190 hK hP hD [0] rfl rfl (by decide) 0 rfl rfl rfl ⟨Nat.le_of_ble_eq_true rfl, Nat.le_of_ble_eq_true rfl⟩ ⟨Nat.le_of_ble_eq_true rfl, Nat.le_of_ble_eq_true rfl⟩ rfl hl.1 rfl (Nat.le_of_ble_eq_true rfl) dL_law_1729) hS (fun q _ h => hFc q h) hFc (fun r_1 u_2 t H1 locs ht hvm h_3 hB hz1 hk1 hS => ?_)
  have hP1 : va_P D vwCl [] H1 := fun k q h => by simp at h
  have hD1 : va_D (va_A [((g 0), .inr (12, oX g))] H.size) [] := ⟨fun i j p q h => by simp at h, fun k q h => by simp at h⟩
  obtain ⟨hP, hD⟩ := va_join (wr := [((h 100), .inr (13, oM h))]) (w1 := []) hP hD [0] [29] rfl rfl (by decide) (by decide) hk1 hFc hP1 hD1
  generalize H1 = H at hP hS ⊢
  have hP : va_P D vwCl [((h 100), .inr (13, oM h))] H := hP
  have hD : va_D A [((h 100), .inr (13, oM h))] := hD
  refine lv_aload_n hx hb dL_law_1732 rfl (lv_at hl 2 rfl) ?_
  have hFc := va_free (wc := [((h 100), .inr (13, oM h))]) hD hS hA [0] rfl
  refine va_calli (runV_w (As := []) (rest := [.int r_1]) S (q_M_drum l D cI cB cZ h H.size) kV_RL_193 hK hP hD [0] rfl rfl (by decide) 0 rfl rfl rfl ⟨Nat.le_of_ble_eq_true rfl, Nat.le_of_ble_eq_true rfl⟩ ⟨Nat.le_of_ble_eq_true rfl, Nat.le_of_ble_eq_true rfl⟩ rfl hl.1 rfl (Nat.le_of_ble_eq_true rfl) dL_law_1733) hS (fun q _ h => hFc q h) hFc (fun r_4 u_5 t H1 locs ht hvm h_6 hB hz1 hk1 hS => ?_)
  have hP1 : va_P D vwCl [] H1 := fun k q h => by simp at h
  have hD1 : va_D (va_A [((h 100), .inr (13, oM h))] H.size) [] := ⟨fun i j p q h => by simp at h, fun k q h => by simp at h⟩
  obtain ⟨hP, hD⟩ := va_join (wr := []) (w1 := []) hP hD [0] [] rfl rfl (by decide) (by decide) hk1 hFc hP1 hD1
  generalize H1 = H at hP hS ⊢
  have hP : va_P D vwCl [] H := hP
  have hD : va_D A [] := hD
  refine lv_icmp_eq (tgt := 2272) hx hb dL_law_1736 (by decide) (fun _ => ?_) (fun q => absurd (Eq.trans h_3 (Eq.symm h_6)) q)
  exact law_tail C0 (by rw [← hAe]; exact hS) (Nat.le_of_ble_eq_true rfl) (Nat.le_of_ble_eq_true rfl) hl
set_option maxRecDepth 100000 in
set_option maxHeartbeats 4000000 in
theorem lawc_42 {p : Program} {l : Launch} {e : Env} {s : State} {m : MethodId} {below : List Frame} {meth : Method} {c : Code} {b : Nat} {xs : Nat → Int32} (C0 : lw_At p s m meth c b 7 xs) {D : va_G} {cI cB cZ : ClassId} {qq vv : Nat} {bt : Nat → Int32} {g h : Nat → Nat} (hK : KK D cI cB cZ s) (hXS : XS D (g 50) qq vv bt (fun q : Nat => s.heap.size ≤ q) s s.heap) {H : Heap} {locs : List Loc} (hP : va_P D vwCl (wXM cI cB g h) H) (hD : va_D (fun q : Nat => s.heap.size ≤ q) (wXM cI cB g h)) (hS : va_S (fun q : Nat => s.heap.size ≤ q) s.heap H locs) {ls : Array Slot} (hl : lv_has ls 4 [(0, .ref b), (1, .ref (g 0)), (2, .ref (h 100)), (3, .int 0)]) : W p l e room_1 s m #[Value.ref b] below meth c H locs 107 14457 (lw_Z below #[Value.ref b] s) (F0 m 1741 ls []) := by
  obtain ⟨hx, hb, hr, hml, hown, hts, hX, hbl, hlocks, hgv⟩ := id C0
  have S : SF p m c code 4 s #[Value.ref b] RL := ⟨hx, hb, hml, hown, fun w h => hts w (wT_lw h)⟩
  obtain ⟨A, hAe⟩ : ∃ A : Nat → Prop, A = (fun q : Nat => s.heap.size ≤ q) := ⟨_, rfl⟩
  rw [← hAe] at hXS hD hS
  have hA : ∀ q : Nat, s.heap.size ≤ q → A q := fun q h => by rw [hAe]; exact h
  have hbA : ¬ A b := by rw [hAe]; exact Nat.not_le.mpr hbl
  refine lv_aload_n hx hb dL_law_1741 rfl (lv_at hl 1 rfl) ?_
  refine lv_aload_n hx hb dL_law_1742 rfl (lv_at hl 0 rfl) ?_
  refine lv_iload_n hx hb dL_law_1743 rfl (lv_at hl 3 rfl) ?_
  refine lv_iconst (v := 1) hx hb dL_law_1744 (by decide) ?_
  refine lv_iadd hx hb dL_law_1745 ?_
  refine lv_topi (fun y_1 ey_1 => ?_)
  obtain rfl : y_1 = 1 := ey_1.trans (by decide)
  refine va_sld hx hb hX hbl hbA hS (by unfold vp_in; decide) dL_law_1746 ?_
  refine lv_topi (fun y_2 ey_2 => ?_)
  obtain rfl : y_2 = (xs 1) := ey_2
  refine lv_aload_n hx hb dL_law_1747 rfl (lv_at hl 0 rfl) ?_
  refine lv_iload_n hx hb dL_law_1748 rfl (lv_at hl 3 rfl) ?_
  refine lv_iconst (v := 2) hx hb dL_law_1749 (by decide) ?_
  refine lv_iadd hx hb dL_law_1750 ?_
  refine lv_topi (fun y_3 ey_3 => ?_)
  obtain rfl : y_3 = 2 := ey_3.trans (by decide)
  refine va_sld hx hb hX hbl hbA hS (by unfold vp_in; decide) dL_law_1751 ?_
  refine lv_topi (fun y_4 ey_4 => ?_)
  obtain rfl : y_4 = (xs 2) := ey_4
  refine lv_aload_n hx hb dL_law_1752 rfl (lv_at hl 0 rfl) ?_
  refine lv_iload_n hx hb dL_law_1753 rfl (lv_at hl 3 rfl) ?_
  refine lv_iconst (v := 3) hx hb dL_law_1754 (by decide) ?_
  refine lv_iadd hx hb dL_law_1755 ?_
  refine lv_topi (fun y_5 ey_5 => ?_)
  obtain rfl : y_5 = 3 := ey_5.trans (by decide)
  refine va_sld hx hb hX hbl hbA hS (by unfold vp_in; decide) dL_law_1756 ?_
  refine lv_topi (fun y_6 ey_6 => ?_)
  obtain rfl : y_6 = (xs 3) := ey_6
  refine vp_callSi (runV_r (As := [.int (xs 1), .int (xs 2), .int (xs 3)]) (rest := []) S (q_X_moves l D cI cB cZ g (xs 1) (xs 2) (xs 3)) kV_RL_194 hK hP [0, 23] rfl 0 rfl rfl rfl ⟨Nat.le_of_ble_eq_true rfl, Nat.le_of_ble_eq_true rfl⟩ ⟨Nat.le_of_ble_eq_true rfl, Nat.le_of_ble_eq_true rfl⟩ rfl hl.1 rfl (Nat.le_of_ble_eq_true rfl) dL_law_1757) (fun r_7 h_8 => ?_)
  refine lv_aload_n hx hb dL_law_1760 rfl (lv_at hl 2 rfl) ?_
  refine lv_aload_n hx hb dL_law_1761 rfl (lv_at hl 0 rfl) ?_
  refine lv_iload_n hx hb dL_law_1762 rfl (lv_at hl 3 rfl) ?_
  refine lv_iconst (v := 1) hx hb dL_law_1763 (by decide) ?_
  refine lv_iadd hx hb dL_law_1764 ?_
  refine lv_topi (fun y_9 ey_9 => ?_)
  obtain rfl : y_9 = 1 := ey_9.trans (by decide)
  refine va_sld hx hb hX hbl hbA hS (by unfold vp_in; decide) dL_law_1765 ?_
  refine lv_topi (fun y_10 ey_10 => ?_)
  obtain rfl : y_10 = (xs 1) := ey_10
  refine lv_aload_n hx hb dL_law_1766 rfl (lv_at hl 0 rfl) ?_
  refine lv_iload_n hx hb dL_law_1767 rfl (lv_at hl 3 rfl) ?_
  refine lv_iconst (v := 2) hx hb dL_law_1768 (by decide) ?_
  refine lv_iadd hx hb dL_law_1769 ?_
  refine lv_topi (fun y_11 ey_11 => ?_)
  obtain rfl : y_11 = 2 := ey_11.trans (by decide)
  refine va_sld hx hb hX hbl hbA hS (by unfold vp_in; decide) dL_law_1770 ?_
  refine lv_topi (fun y_12 ey_12 => ?_)
  obtain rfl : y_12 = (xs 2) := ey_12
  refine lv_aload_n hx hb dL_law_1771 rfl (lv_at hl 0 rfl) ?_
  refine lv_iload_n hx hb dL_law_1772 rfl (lv_at hl 3 rfl) ?_
  refine lv_iconst (v := 3) hx hb dL_law_1773 (by decide) ?_
  refine lv_iadd hx hb dL_law_1774 ?_
  refine lv_topi (fun y_13 ey_13 => ?_)
  obtain rfl : y_13 = 3 := ey_13.trans (by decide)
  refine va_sld hx hb hX hbl hbA hS (by unfold vp_in; decide) dL_law_1775 ?_
  refine lv_topi (fun y_14 ey_14 => ?_)
  obtain rfl : y_14 = (xs 3) := ey_14
  refine vp_callSi (runV_r (As := [.int (xs 1), .int (xs 2), .int (xs 3)]) (rest := [.int r_7]) S (q_M_moves l D cI cB cZ h (xs 1) (xs 2) (xs 3)) kV_RL_197 hK hP [29] rfl 29 rfl rfl rfl ⟨Nat.le_of_ble_eq_true rfl, Nat.le_of_ble_eq_true rfl⟩ ⟨Nat.le_of_ble_eq_true rfl, Nat.le_of_ble_eq_true rfl⟩ rfl hl.1 rfl (Nat.le_of_ble_eq_true rfl) dL_law_1776) (fun r_15 h_16 => ?_)
  refine lv_icmp_eq (tgt := 2272) hx hb dL_law_1779 (by decide) (fun _ => ?_) (fun q => absurd (Eq.trans h_8 (Eq.symm h_16)) q)
  exact law_tail C0 (by rw [← hAe]; exact hS) (Nat.le_of_ble_eq_true rfl) (Nat.le_of_ble_eq_true rfl) hl
set_option maxRecDepth 100000 in
set_option maxHeartbeats 4000000 in
theorem lawc_43 {p : Program} {l : Launch} {e : Env} {s : State} {m : MethodId} {below : List Frame} {meth : Method} {c : Code} {b : Nat} {xs : Nat → Int32} (C0 : lw_At p s m meth c b 7 xs) {D : va_G} {cI cB cZ : ClassId} {qq vv : Nat} {bt : Nat → Int32} {g h : Nat → Nat} (hK : KK D cI cB cZ s) (hXS : XS D (g 50) qq vv bt (fun q : Nat => s.heap.size ≤ q) s s.heap) {H : Heap} {locs : List Loc} (hP : va_P D vwCl (wXM cI cB g h) H) (hD : va_D (fun q : Nat => s.heap.size ≤ q) (wXM cI cB g h)) (hS : va_S (fun q : Nat => s.heap.size ≤ q) s.heap H locs) {ls : Array Slot} (hl : lv_has ls 4 [(0, .ref b), (1, .ref (g 0)), (2, .ref (h 100)), (3, .int 0)]) : W p l e room_1 s m #[Value.ref b] below meth c H locs 107 14457 (lw_Z below #[Value.ref b] s) (F0 m 1784 ls []) := by
  obtain ⟨hx, hb, hr, hml, hown, hts, hX, hbl, hlocks, hgv⟩ := id C0
  have S : SF p m c code 4 s #[Value.ref b] RL := ⟨hx, hb, hml, hown, fun w h => hts w (wT_lw h)⟩
  obtain ⟨A, hAe⟩ : ∃ A : Nat → Prop, A = (fun q : Nat => s.heap.size ≤ q) := ⟨_, rfl⟩
  rw [← hAe] at hXS hD hS
  have hA : ∀ q : Nat, s.heap.size ≤ q → A q := fun q h => by rw [hAe]; exact h
  have hbA : ¬ A b := by rw [hAe]; exact Nat.not_le.mpr hbl
  refine lv_aload_n hx hb dL_law_1784 rfl (lv_at hl 1 rfl) ?_
  refine lv_aload_n hx hb dL_law_1785 rfl (lv_at hl 0 rfl) ?_
  refine lv_iload_n hx hb dL_law_1786 rfl (lv_at hl 3 rfl) ?_
  refine lv_iconst (v := 1) hx hb dL_law_1787 (by decide) ?_
  refine lv_iadd hx hb dL_law_1788 ?_
  refine lv_topi (fun y_1 ey_1 => ?_)
  obtain rfl : y_1 = 1 := ey_1.trans (by decide)
  refine va_sld hx hb hX hbl hbA hS (by unfold vp_in; decide) dL_law_1789 ?_
  refine lv_topi (fun y_2 ey_2 => ?_)
  obtain rfl : y_2 = (xs 1) := ey_2
  refine lv_aload_n hx hb dL_law_1790 rfl (lv_at hl 0 rfl) ?_
  refine lv_iload_n hx hb dL_law_1791 rfl (lv_at hl 3 rfl) ?_
  refine lv_iconst (v := 2) hx hb dL_law_1792 (by decide) ?_
  refine lv_iadd hx hb dL_law_1793 ?_
  refine lv_topi (fun y_3 ey_3 => ?_)
  obtain rfl : y_3 = 2 := ey_3.trans (by decide)
  refine va_sld hx hb hX hbl hbA hS (by unfold vp_in; decide) dL_law_1794 ?_
  refine lv_topi (fun y_4 ey_4 => ?_)
  obtain rfl : y_4 = (xs 2) := ey_4
  refine vp_callSi (runV_r (As := [.int (xs 1), .int (xs 2)]) (rest := []) S (q_X_stood l D cI cB cZ g (xs 1) (xs 2)) kV_RL_198 hK hP [0] rfl 0 rfl rfl rfl ⟨Nat.le_of_ble_eq_true rfl, Nat.le_of_ble_eq_true rfl⟩ ⟨Nat.le_of_ble_eq_true rfl, Nat.le_of_ble_eq_true rfl⟩ rfl hl.1 rfl (Nat.le_of_ble_eq_true rfl) dL_law_1795) (fun r_5 h_6 => ?_)
  refine lv_aload_n hx hb dL_law_1798 rfl (lv_at hl 2 rfl) ?_
  refine lv_aload_n hx hb dL_law_1799 rfl (lv_at hl 0 rfl) ?_
  refine lv_iload_n hx hb dL_law_1800 rfl (lv_at hl 3 rfl) ?_
  refine lv_iconst (v := 1) hx hb dL_law_1801 (by decide) ?_
  refine lv_iadd hx hb dL_law_1802 ?_
  refine lv_topi (fun y_7 ey_7 => ?_)
  obtain rfl : y_7 = 1 := ey_7.trans (by decide)
  refine va_sld hx hb hX hbl hbA hS (by unfold vp_in; decide) dL_law_1803 ?_
  refine lv_topi (fun y_8 ey_8 => ?_)
  obtain rfl : y_8 = (xs 1) := ey_8
  refine lv_aload_n hx hb dL_law_1804 rfl (lv_at hl 0 rfl) ?_
  refine lv_iload_n hx hb dL_law_1805 rfl (lv_at hl 3 rfl) ?_
  refine lv_iconst (v := 2) hx hb dL_law_1806 (by decide) ?_
  refine lv_iadd hx hb dL_law_1807 ?_
  refine lv_topi (fun y_9 ey_9 => ?_)
  obtain rfl : y_9 = 2 := ey_9.trans (by decide)
  refine va_sld hx hb hX hbl hbA hS (by unfold vp_in; decide) dL_law_1808 ?_
  refine lv_topi (fun y_10 ey_10 => ?_)
  obtain rfl : y_10 = (xs 2) := ey_10
  refine vp_callSi (runV_r (As := [.int (xs 1), .int (xs 2)]) (rest := [.int r_5]) S (q_M_stood l D cI cB cZ h (xs 1) (xs 2)) kV_RL_201 hK hP [29] rfl 29 rfl rfl rfl ⟨Nat.le_of_ble_eq_true rfl, Nat.le_of_ble_eq_true rfl⟩ ⟨Nat.le_of_ble_eq_true rfl, Nat.le_of_ble_eq_true rfl⟩ rfl hl.1 rfl (Nat.le_of_ble_eq_true rfl) dL_law_1809) (fun r_11 h_12 => ?_)
  refine lv_icmp_eq (tgt := 2272) hx hb dL_law_1812 (by decide) (fun _ => ?_) (fun q => absurd (Eq.trans h_6 (Eq.symm h_12)) q)
  exact law_tail C0 (by rw [← hAe]; exact hS) (Nat.le_of_ble_eq_true rfl) (Nat.le_of_ble_eq_true rfl) hl
set_option maxRecDepth 100000 in
set_option maxHeartbeats 4000000 in
theorem lawc_44 {p : Program} {l : Launch} {e : Env} {s : State} {m : MethodId} {below : List Frame} {meth : Method} {c : Code} {b : Nat} {xs : Nat → Int32} (C0 : lw_At p s m meth c b 7 xs) {D : va_G} {cI cB cZ : ClassId} {qq vv : Nat} {bt : Nat → Int32} {g h : Nat → Nat} (hK : KK D cI cB cZ s) (hXS : XS D (g 50) qq vv bt (fun q : Nat => s.heap.size ≤ q) s s.heap) {H : Heap} {locs : List Loc} (hP : va_P D vwCl (wXM cI cB g h) H) (hD : va_D (fun q : Nat => s.heap.size ≤ q) (wXM cI cB g h)) (hS : va_S (fun q : Nat => s.heap.size ≤ q) s.heap H locs) {ls : Array Slot} (hl : lv_has ls 4 [(0, .ref b), (1, .ref (g 0)), (2, .ref (h 100)), (3, .int 0)]) : W p l e room_1 s m #[Value.ref b] below meth c H locs 107 14457 (lw_Z below #[Value.ref b] s) (F0 m 1817 ls []) := by
  obtain ⟨hx, hb, hr, hml, hown, hts, hX, hbl, hlocks, hgv⟩ := id C0
  have S : SF p m c code 4 s #[Value.ref b] RL := ⟨hx, hb, hml, hown, fun w h => hts w (wT_lw h)⟩
  obtain ⟨A, hAe⟩ : ∃ A : Nat → Prop, A = (fun q : Nat => s.heap.size ≤ q) := ⟨_, rfl⟩
  rw [← hAe] at hXS hD hS
  have hA : ∀ q : Nat, s.heap.size ≤ q → A q := fun q h => by rw [hAe]; exact h
  have hbA : ¬ A b := by rw [hAe]; exact Nat.not_le.mpr hbl
  refine lv_aload_n hx hb dL_law_1817 rfl (lv_at hl 1 rfl) ?_
  refine lv_aload_n hx hb dL_law_1818 rfl (lv_at hl 0 rfl) ?_
  refine lv_iload_n hx hb dL_law_1819 rfl (lv_at hl 3 rfl) ?_
  refine lv_iconst (v := 1) hx hb dL_law_1820 (by decide) ?_
  refine lv_iadd hx hb dL_law_1821 ?_
  refine lv_topi (fun y_1 ey_1 => ?_)
  obtain rfl : y_1 = 1 := ey_1.trans (by decide)
  refine va_sld hx hb hX hbl hbA hS (by unfold vp_in; decide) dL_law_1822 ?_
  refine lv_topi (fun y_2 ey_2 => ?_)
  obtain rfl : y_2 = (xs 1) := ey_2
  refine vp_callSi (runV_r (As := [.int (xs 1)]) (rest := []) S (q_X_stale l D cI cB cZ g (xs 1)) kV_RL_202 hK hP [0] rfl 0 rfl rfl rfl ⟨Nat.le_of_ble_eq_true rfl, Nat.le_of_ble_eq_true rfl⟩ ⟨Nat.le_of_ble_eq_true rfl, Nat.le_of_ble_eq_true rfl⟩ rfl hl.1 rfl (Nat.le_of_ble_eq_true rfl) dL_law_1823) (fun r_3 h_4 => ?_)
  refine lv_aload_n hx hb dL_law_1826 rfl (lv_at hl 2 rfl) ?_
  refine lv_aload_n hx hb dL_law_1827 rfl (lv_at hl 0 rfl) ?_
  refine lv_iload_n hx hb dL_law_1828 rfl (lv_at hl 3 rfl) ?_
  refine lv_iconst (v := 1) hx hb dL_law_1829 (by decide) ?_
  refine lv_iadd hx hb dL_law_1830 ?_
  refine lv_topi (fun y_5 ey_5 => ?_)
  obtain rfl : y_5 = 1 := ey_5.trans (by decide)
  refine va_sld hx hb hX hbl hbA hS (by unfold vp_in; decide) dL_law_1831 ?_
  refine lv_topi (fun y_6 ey_6 => ?_)
  obtain rfl : y_6 = (xs 1) := ey_6
  refine vp_callSi (runV_r (As := [.int (xs 1)]) (rest := [.int r_3]) S (q_M_stale l D cI cB cZ h (xs 1)) kV_RL_205 hK hP [29] rfl 29 rfl rfl rfl ⟨Nat.le_of_ble_eq_true rfl, Nat.le_of_ble_eq_true rfl⟩ ⟨Nat.le_of_ble_eq_true rfl, Nat.le_of_ble_eq_true rfl⟩ rfl hl.1 rfl (Nat.le_of_ble_eq_true rfl) dL_law_1832) (fun r_7 h_8 => ?_)
  refine lv_icmp_eq (tgt := 2272) hx hb dL_law_1835 (by decide) (fun _ => ?_) (fun q => absurd (Eq.trans h_4 (Eq.symm h_8)) q)
  exact law_tail C0 (by rw [← hAe]; exact hS) (Nat.le_of_ble_eq_true rfl) (Nat.le_of_ble_eq_true rfl) hl

