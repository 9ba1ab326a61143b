set_option maxRecDepth 100000 in
theorem kV_RL_144 : CalV RL 144 yX11_first cX11_first 4 (some .int) 2 := ⟨⟨wk6_0 11 rfl rfl, wk6_1 0 rfl rfl, wk6_1 1 rfl rfl, wk1_0 1 rfl rfl, wk6_1 2 rfl rfl⟩, ⟨nmh_0.1, nmh_0.2, pd_17⟩⟩
set_option maxRecDepth 100000 in
theorem kV_RL_147 : CalV RL 147 yX12_first cX12_first 4 (some .int) 2 := ⟨⟨wk9_10 2 rfl rfl, wk9_10 3 rfl rfl, wk9_10 4 rfl rfl, wk1_1 1 rfl rfl, wk9_10 5 rfl rfl⟩, ⟨nmh_13.1, nmh_13.2, pd_17⟩⟩
set_option maxRecDepth 100000 in
theorem kV_RL_148 : CalV RL 148 yX11_street cX11_street 4 (some .boolean) 2 := ⟨⟨wk4_5 11 rfl rfl, wk4_6 0 rfl rfl, wk4_6 1 rfl rfl, wk1_0 1 rfl rfl, wk4_6 2 rfl rfl⟩, ⟨nmh_0.1, nmh_0.2, pd_21⟩⟩
set_option maxRecDepth 100000 in
theorem kV_RL_151 : CalV RL 151 yX12_street cX12_street 3 (some .boolean) 2 := ⟨⟨wk8_7 5 rfl rfl, wk8_7 6 rfl rfl, wk8_7 7 rfl rfl, wk1_1 1 rfl rfl, wk8_7 8 rfl rfl⟩, ⟨nmh_13.1, nmh_13.2, pd_21⟩⟩
set_option maxRecDepth 100000 in
theorem kV_RL_152 : CalV RL 152 yX11_streets cX11_streets 10 (some .long) 2 := ⟨⟨wk4_6 3 rfl rfl, wk4_6 4 rfl rfl, wk4_6 5 rfl rfl, wk1_0 1 rfl rfl, wk4_6 6 rfl rfl⟩, ⟨nmh_0.1, nmh_0.2, pd_18⟩⟩
set_option maxRecDepth 100000 in
theorem kV_RL_155 : CalV RL 155 yX12_streets cX12_streets 6 (some .long) 2 := ⟨⟨wk8_7 9 rfl rfl, wk8_7 10 rfl rfl, wk8_7 11 rfl rfl, wk1_1 1 rfl rfl, wk8_8 0 rfl rfl⟩, ⟨nmh_13.1, nmh_13.2, pd_18⟩⟩
set_option maxRecDepth 100000 in
theorem kV_RL_156 : CalV RL 156 yX11_cheat cX11_cheat 10 (some .long) 3 := ⟨⟨wk4_6 7 rfl rfl, wk4_6 8 rfl rfl, wk4_6 9 rfl rfl, wk1_0 1 rfl rfl, wk4_6 10 rfl rfl⟩, ⟨nmh_0.1, nmh_0.2, pd_23⟩⟩
set_option maxRecDepth 100000 in
theorem kV_RL_160 : CalV RL 160 yX12_cheat cX12_cheat 9 (some .long) 3 := ⟨⟨wk8_8 1 rfl rfl, wk8_8 2 rfl rfl, wk8_8 3 rfl rfl, wk1_1 1 rfl rfl, wk8_8 4 rfl rfl⟩, ⟨nmh_13.1, nmh_13.2, pd_23⟩⟩
set_option maxRecDepth 100000 in
theorem kV_RL_161 : CalV RL 161 yX11_asIf cX11_asIf 4 (some .int) 2 := ⟨⟨wk4_4 5 rfl rfl, wk4_4 6 rfl rfl, wk4_4 7 rfl rfl, wk1_0 1 rfl rfl, wk4_4 8 rfl rfl⟩, ⟨nmh_0.1, nmh_0.2, pd_17⟩⟩
set_option maxRecDepth 100000 in
theorem kV_RL_164 : CalV RL 164 yX12_asIf cX12_asIf 5 (some .int) 2 := ⟨⟨wk8_5 5 rfl rfl, wk8_5 6 rfl rfl, wk8_5 7 rfl rfl, wk1_1 1 rfl rfl, wk8_5 8 rfl rfl⟩, ⟨nmh_13.1, nmh_13.2, pd_17⟩⟩
set_option maxRecDepth 100000 in
theorem kV_RL_165 : CalV RL 165 yX11_lorry cX11_lorry 2 (some .int) 1 := ⟨⟨wk4_13 9 rfl rfl, wk4_13 10 rfl rfl, wk4_13 11 rfl rfl, wk1_0 1 rfl rfl, wk4_14 0 rfl rfl⟩, ⟨nmh_0.1, nmh_0.2, pd_8⟩⟩
set_option maxRecDepth 100000 in
theorem kV_RL_168 : CalV RL 168 yX12_lorry cX12_lorry 2 (some .int) 1 := ⟨⟨wk8_11 9 rfl rfl, wk8_11 10 rfl rfl, wk8_11 11 rfl rfl, wk1_1 1 rfl rfl, wk8_12 0 rfl rfl⟩, ⟨nmh_13.1, nmh_13.2, pd_8⟩⟩
set_option maxRecDepth 100000 in
theorem kV_RL_169 : CalV RL 169 yX11_off cX11_off 4 (some .boolean) 3 := ⟨⟨wk4_14 1 rfl rfl, wk4_14 2 rfl rfl, wk4_14 3 rfl rfl, wk1_0 1 rfl rfl, wk4_14 4 rfl rfl⟩, ⟨nmh_0.1, nmh_0.2, pd_38⟩⟩
set_option maxRecDepth 100000 in
theorem kV_RL_173 : CalV RL 173 yX12_off cX12_off 4 (some .boolean) 3 := ⟨⟨wk8_12 1 rfl rfl, wk8_12 2 rfl rfl, wk8_12 3 rfl rfl, wk1_1 1 rfl rfl, wk8_12 4 rfl rfl⟩, ⟨nmh_13.1, nmh_13.2, pd_38⟩⟩
set_option maxRecDepth 100000 in
theorem kV_RL_174 : CalV RL 174 yX11_shared cX11_shared 6 (some .int) 3 := ⟨⟨wk4_14 9 rfl rfl, wk4_14 10 rfl rfl, wk4_14 11 rfl rfl, wk1_0 1 rfl rfl, wk4_15 0 rfl rfl⟩, ⟨nmh_0.1, nmh_0.2, pd_22⟩⟩
set_option maxRecDepth 100000 in
theorem kV_RL_177 : CalV RL 177 yX12_shared cX12_shared 10 (some .int) 3 := ⟨⟨wk8_12 5 rfl rfl, wk8_12 6 rfl rfl, wk8_12 7 rfl rfl, wk1_1 1 rfl rfl, wk8_12 8 rfl rfl⟩, ⟨nmh_13.1, nmh_13.2, pd_22⟩⟩
set_option maxRecDepth 100000 in
theorem kV_RL_178 : CalV RL 178 yX11_nights cX11_nights 8 (some .int) 4 := ⟨⟨wk4_13 1 rfl rfl, wk4_13 2 rfl rfl, wk4_13 3 rfl rfl, wk1_0 1 rfl rfl, wk4_13 4 rfl rfl⟩, ⟨nmh_0.1, nmh_0.2, pd_27⟩⟩
set_option maxRecDepth 100000 in
theorem kV_RL_181 : CalV RL 181 yX12_nights cX12_nights 7 (some .int) 4 := ⟨⟨wk8_13 5 rfl rfl, wk8_13 6 rfl rfl, wk8_13 7 rfl rfl, wk1_1 1 rfl rfl, wk8_13 8 rfl rfl⟩, ⟨nmh_13.1, nmh_13.2, pd_27⟩⟩
set_option maxRecDepth 100000 in
theorem kV_RL_182 : CalV RL 182 yX11_feast cX11_feast 3 (some .boolean) 2 := ⟨⟨wk6_1 3 rfl rfl, wk6_1 4 rfl rfl, wk6_1 5 rfl rfl, wk1_0 1 rfl rfl, wk6_1 6 rfl rfl⟩, ⟨nmh_0.1, nmh_0.2, pd_21⟩⟩
set_option maxRecDepth 100000 in
theorem kV_RL_185 : CalV RL 185 yX12_feast cX12_feast 3 (some .boolean) 2 := ⟨⟨wk8_8 5 rfl rfl, wk8_8 6 rfl rfl, wk8_8 7 rfl rfl, wk1_1 1 rfl rfl, wk8_8 8 rfl rfl⟩, ⟨nmh_13.1, nmh_13.2, pd_21⟩⟩
set_option maxRecDepth 100000 in
theorem kV_RL_186 : CalV RL 186 yX11_feasted cX11_feasted 6 (some .int) 2 := ⟨⟨wk6_1 7 rfl rfl, wk6_1 8 rfl rfl, wk6_1 9 rfl rfl, wk1_0 1 rfl rfl, wk6_1 10 rfl rfl⟩, ⟨nmh_0.1, nmh_0.2, pd_17⟩⟩
set_option maxRecDepth 100000 in
theorem kV_RL_189 : CalV RL 189 yX12_feasted cX12_feasted 5 (some .int) 2 := ⟨⟨wk8_8 9 rfl rfl, wk8_8 10 rfl rfl, wk8_8 11 rfl rfl, wk1_1 1 rfl rfl, wk8_9 0 rfl rfl⟩, ⟨nmh_13.1, nmh_13.2, pd_17⟩⟩
set_option maxRecDepth 100000 in
theorem kV_RL_190 : CalV RL 190 yX11_drum cX11_drum 1 (some .int) 0 := ⟨⟨wk6_2 3 rfl rfl, wk6_2 4 rfl rfl, wk6_2 5 rfl rfl, wk1_0 1 rfl rfl, wk6_2 6 rfl rfl⟩, ⟨nmh_0.1, nmh_0.2, pd_1⟩⟩
set_option maxRecDepth 100000 in
theorem kV_RL_193 : CalV RL 193 yX12_drum cX12_drum 1 (some .int) 0 := ⟨⟨wk8_14 1 rfl rfl, wk8_14 2 rfl rfl, wk8_14 3 rfl rfl, wk1_1 1 rfl rfl, wk8_14 4 rfl rfl⟩, ⟨nmh_13.1, nmh_13.2, pd_1⟩⟩
set_option maxRecDepth 100000 in
theorem kV_RL_194 : CalV RL 194 yX11_moves cX11_moves 6 (some .boolean) 3 := ⟨⟨wk6_2 7 rfl rfl, wk6_2 8 rfl rfl, wk6_2 9 rfl rfl, wk1_0 1 rfl rfl, wk6_2 10 rfl rfl⟩, ⟨nmh_0.1, nmh_0.2, pd_26⟩⟩
set_option maxRecDepth 100000 in
theorem kV_RL_197 : CalV RL 197 yX12_moves cX12_moves 5 (some .boolean) 3 := ⟨⟨wk8_14 5 rfl rfl, wk8_14 6 rfl rfl, wk8_14 7 rfl rfl, wk1_1 1 rfl rfl, wk8_14 8 rfl rfl⟩, ⟨nmh_13.1, nmh_13.2, pd_26⟩⟩
set_option maxRecDepth 100000 in
theorem kV_RL_198 : CalV RL 198 yX11_stood cX11_stood 4 (some .int) 2 := ⟨⟨wk6_4 10 rfl rfl, wk6_4 11 rfl rfl, wk6_5 0 rfl rfl, wk1_0 1 rfl rfl, wk6_5 1 rfl rfl⟩, ⟨nmh_0.1, nmh_0.2, pd_17⟩⟩
set_option maxRecDepth 100000 in
theorem kV_RL_201 : CalV RL 201 yX12_stood cX12_stood 4 (some .int) 2 := ⟨⟨wk8_15 5 rfl rfl, wk8_15 6 rfl rfl, wk8_15 7 rfl rfl, wk1_1 1 rfl rfl, wk8_15 8 rfl rfl⟩, ⟨nmh_13.1, nmh_13.2, pd_17⟩⟩
set_option maxRecDepth 100000 in
theorem kV_RL_202 : CalV RL 202 yX11_stale cX11_stale 6 (some .int) 1 := ⟨⟨wk6_5 2 rfl rfl, wk6_5 3 rfl rfl, wk6_5 4 rfl rfl, wk1_0 1 rfl rfl, wk6_5 5 rfl rfl⟩, ⟨nmh_0.1, nmh_0.2, pd_8⟩⟩
set_option maxRecDepth 100000 in
theorem kV_RL_205 : CalV RL 205 yX12_stale cX12_stale 5 (some .int) 1 := ⟨⟨wk8_15 9 rfl rfl, wk8_15 10 rfl rfl, wk8_15 11 rfl rfl, wk1_1 1 rfl rfl, wk8_16 0 rfl rfl⟩, ⟨nmh_13.1, nmh_13.2, pd_8⟩⟩
theorem dL_law_1306 : decode code 1306 = .ok (.aload_n 1, 1) := oc_43 shL_law_1306
theorem dL_law_1307 : decode code 1307 = .ok (.aload_n 0, 1) := oc_42 shL_law_1307
theorem dL_law_1308 : decode code 1308 = .ok (.iload_n 3, 1) := oc_29 shL_law_1308
theorem dL_law_1309 : decode code 1309 = .ok (.iconst 1, 1) := oc_4 shL_law_1309
theorem dL_law_1310 : decode code 1310 = .ok (.iadd, 1) := oc_96 shL_law_1310
theorem dL_law_1311 : decode code 1311 = .ok (.iaload, 1) := oc_46 shL_law_1311
theorem dL_law_1312 : decode code 1312 = .ok (.aload_n 0, 1) := oc_42 shL_law_1312
theorem dL_law_1313 : decode code 1313 = .ok (.iload_n 3, 1) := oc_29 shL_law_1313
theorem dL_law_1314 : decode code 1314 = .ok (.iconst 2, 1) := oc_5 shL_law_1314
theorem dL_law_1315 : decode code 1315 = .ok (.iadd, 1) := oc_96 shL_law_1315
theorem dL_law_1316 : decode code 1316 = .ok (.iaload, 1) := oc_46 shL_law_1316
theorem dL_law_1317 : decode code 1317 = .ok (.invokevirtual 144, 3) := oc_182 shL_law_1317
theorem dL_law_1320 : decode code 1320 = .ok (.aload_n 2, 1) := oc_44 shL_law_1320
theorem dL_law_1321 : decode code 1321 = .ok (.aload_n 0, 1) := oc_42 shL_law_1321
theorem dL_law_1322 : decode code 1322 = .ok (.iload_n 3, 1) := oc_29 shL_law_1322
theorem dL_law_1323 : decode code 1323 = .ok (.iconst 1, 1) := oc_4 shL_law_1323
theorem dL_law_1324 : decode code 1324 = .ok (.iadd, 1) := oc_96 shL_law_1324
theorem dL_law_1325 : decode code 1325 = .ok (.iaload, 1) := oc_46 shL_law_1325
theorem dL_law_1326 : decode code 1326 = .ok (.aload_n 0, 1) := oc_42 shL_law_1326
theorem dL_law_1327 : decode code 1327 = .ok (.iload_n 3, 1) := oc_29 shL_law_1327
theorem dL_law_1328 : decode code 1328 = .ok (.iconst 2, 1) := oc_5 shL_law_1328
theorem dL_law_1329 : decode code 1329 = .ok (.iadd, 1) := oc_96 shL_law_1329
theorem dL_law_1330 : decode code 1330 = .ok (.iaload, 1) := oc_46 shL_law_1330
theorem dL_law_1331 : decode code 1331 = .ok (.invokevirtual 147, 3) := oc_182 shL_law_1331
theorem dL_law_1334 : decode code 1334 = .ok (.if_icmp .eq 935, 3) := oc_159 shL_law_1334 sgw_3_167
theorem dL_law_1339 : decode code 1339 = .ok (.aload_n 1, 1) := oc_43 shL_law_1339
theorem dL_law_1340 : decode code 1340 = .ok (.aload_n 0, 1) := oc_42 shL_law_1340
theorem dL_law_1341 : decode code 1341 = .ok (.iload_n 3, 1) := oc_29 shL_law_1341
theorem dL_law_1342 : decode code 1342 = .ok (.iconst 1, 1) := oc_4 shL_law_1342
theorem dL_law_1343 : decode code 1343 = .ok (.iadd, 1) := oc_96 shL_law_1343
theorem dL_law_1344 : decode code 1344 = .ok (.iaload, 1) := oc_46 shL_law_1344
theorem dL_law_1345 : decode code 1345 = .ok (.aload_n 0, 1) := oc_42 shL_law_1345
theorem dL_law_1346 : decode code 1346 = .ok (.iload_n 3, 1) := oc_29 shL_law_1346
theorem dL_law_1347 : decode code 1347 = .ok (.iconst 2, 1) := oc_5 shL_law_1347
theorem dL_law_1348 : decode code 1348 = .ok (.iadd, 1) := oc_96 shL_law_1348
theorem dL_law_1349 : decode code 1349 = .ok (.iaload, 1) := oc_46 shL_law_1349
theorem dL_law_1350 : decode code 1350 = .ok (.invokevirtual 148, 3) := oc_182 shL_law_1350
theorem dL_law_1353 : decode code 1353 = .ok (.pop, 1) := oc_87 shL_law_1353
theorem dL_law_1354 : decode code 1354 = .ok (.aload_n 2, 1) := oc_44 shL_law_1354
theorem dL_law_1355 : decode code 1355 = .ok (.aload_n 0, 1) := oc_42 shL_law_1355
theorem dL_law_1356 : decode code 1356 = .ok (.iload_n 3, 1) := oc_29 shL_law_1356
theorem dL_law_1357 : decode code 1357 = .ok (.iconst 1, 1) := oc_4 shL_law_1357
theorem dL_law_1358 : decode code 1358 = .ok (.iadd, 1) := oc_96 shL_law_1358
theorem dL_law_1359 : decode code 1359 = .ok (.iaload, 1) := oc_46 shL_law_1359
theorem dL_law_1360 : decode code 1360 = .ok (.aload_n 0, 1) := oc_42 shL_law_1360
theorem dL_law_1361 : decode code 1361 = .ok (.iload_n 3, 1) := oc_29 shL_law_1361
theorem dL_law_1362 : decode code 1362 = .ok (.iconst 2, 1) := oc_5 shL_law_1362
theorem dL_law_1363 : decode code 1363 = .ok (.iadd, 1) := oc_96 shL_law_1363
theorem dL_law_1364 : decode code 1364 = .ok (.iaload, 1) := oc_46 shL_law_1364
theorem dL_law_1365 : decode code 1365 = .ok (.invokevirtual 151, 3) := oc_182 shL_law_1365
theorem dL_law_1368 : decode code 1368 = .ok (.pop, 1) := oc_87 shL_law_1368
theorem dL_law_1369 : decode code 1369 = .ok (.goto 900, 3) := oc_167 shL_law_1369 sgw_3_132
theorem dL_law_1372 : decode code 1372 = .ok (.aload_n 1, 1) := oc_43 shL_law_1372
theorem dL_law_1373 : decode code 1373 = .ok (.aload_n 0, 1) := oc_42 shL_law_1373
theorem dL_law_1374 : decode code 1374 = .ok (.iload_n 3, 1) := oc_29 shL_law_1374
theorem dL_law_1375 : decode code 1375 = .ok (.iconst 1, 1) := oc_4 shL_law_1375
theorem dL_law_1376 : decode code 1376 = .ok (.iadd, 1) := oc_96 shL_law_1376
theorem dL_law_1377 : decode code 1377 = .ok (.iaload, 1) := oc_46 shL_law_1377
theorem dL_law_1378 : decode code 1378 = .ok (.aload_n 0, 1) := oc_42 shL_law_1378
theorem dL_law_1379 : decode code 1379 = .ok (.iload_n 3, 1) := oc_29 shL_law_1379
theorem dL_law_1380 : decode code 1380 = .ok (.iconst 2, 1) := oc_5 shL_law_1380
theorem dL_law_1381 : decode code 1381 = .ok (.iadd, 1) := oc_96 shL_law_1381
theorem dL_law_1382 : decode code 1382 = .ok (.iaload, 1) := oc_46 shL_law_1382
theorem dL_law_1383 : decode code 1383 = .ok (.invokevirtual 152, 3) := oc_182 shL_law_1383
theorem dL_law_1386 : decode code 1386 = .ok (.pop2, 1) := oc_88 shL_law_1386
theorem dL_law_1387 : decode code 1387 = .ok (.aload_n 2, 1) := oc_44 shL_law_1387
theorem dL_law_1388 : decode code 1388 = .ok (.aload_n 0, 1) := oc_42 shL_law_1388
theorem dL_law_1389 : decode code 1389 = .ok (.iload_n 3, 1) := oc_29 shL_law_1389
theorem dL_law_1390 : decode code 1390 = .ok (.iconst 1, 1) := oc_4 shL_law_1390
theorem dL_law_1391 : decode code 1391 = .ok (.iadd, 1) := oc_96 shL_law_1391
theorem dL_law_1392 : decode code 1392 = .ok (.iaload, 1) := oc_46 shL_law_1392
theorem dL_law_1393 : decode code 1393 = .ok (.aload_n 0, 1) := oc_42 shL_law_1393
theorem dL_law_1394 : decode code 1394 = .ok (.iload_n 3, 1) := oc_29 shL_law_1394
theorem dL_law_1395 : decode code 1395 = .ok (.iconst 2, 1) := oc_5 shL_law_1395
theorem dL_law_1396 : decode code 1396 = .ok (.iadd, 1) := oc_96 shL_law_1396
theorem dL_law_1397 : decode code 1397 = .ok (.iaload, 1) := oc_46 shL_law_1397
theorem dL_law_1398 : decode code 1398 = .ok (.invokevirtual 155, 3) := oc_182 shL_law_1398
theorem dL_law_1401 : decode code 1401 = .ok (.pop2, 1) := oc_88 shL_law_1401
theorem dL_law_1402 : decode code 1402 = .ok (.goto 867, 3) := oc_167 shL_law_1402 sgw_3_99
theorem dL_law_1405 : decode code 1405 = .ok (.aload_n 1, 1) := oc_43 shL_law_1405
theorem dL_law_1406 : decode code 1406 = .ok (.aload_n 0, 1) := oc_42 shL_law_1406
theorem dL_law_1407 : decode code 1407 = .ok (.iload_n 3, 1) := oc_29 shL_law_1407
theorem dL_law_1408 : decode code 1408 = .ok (.iconst 1, 1) := oc_4 shL_law_1408
theorem dL_law_1409 : decode code 1409 = .ok (.iadd, 1) := oc_96 shL_law_1409
theorem dL_law_1410 : decode code 1410 = .ok (.iaload, 1) := oc_46 shL_law_1410
theorem dL_law_1411 : decode code 1411 = .ok (.aload_n 0, 1) := oc_42 shL_law_1411
theorem dL_law_1412 : decode code 1412 = .ok (.iload_n 3, 1) := oc_29 shL_law_1412
theorem dL_law_1413 : decode code 1413 = .ok (.iconst 2, 1) := oc_5 shL_law_1413
theorem dL_law_1414 : decode code 1414 = .ok (.iadd, 1) := oc_96 shL_law_1414
theorem dL_law_1415 : decode code 1415 = .ok (.iaload, 1) := oc_46 shL_law_1415
theorem dL_law_1416 : decode code 1416 = .ok (.aload_n 0, 1) := oc_42 shL_law_1416
theorem dL_law_1417 : decode code 1417 = .ok (.iload_n 3, 1) := oc_29 shL_law_1417
theorem dL_law_1418 : decode code 1418 = .ok (.iconst 3, 1) := oc_6 shL_law_1418
theorem dL_law_1419 : decode code 1419 = .ok (.iadd, 1) := oc_96 shL_law_1419
theorem dL_law_1420 : decode code 1420 = .ok (.iaload, 1) := oc_46 shL_law_1420
theorem dL_law_1421 : decode code 1421 = .ok (.invokevirtual 156, 3) := oc_182 shL_law_1421
theorem dL_law_1424 : decode code 1424 = .ok (.pop2, 1) := oc_88 shL_law_1424
theorem dL_law_1425 : decode code 1425 = .ok (.aload_n 2, 1) := oc_44 shL_law_1425
theorem dL_law_1426 : decode code 1426 = .ok (.aload_n 0, 1) := oc_42 shL_law_1426
theorem dL_law_1427 : decode code 1427 = .ok (.iload_n 3, 1) := oc_29 shL_law_1427
theorem dL_law_1428 : decode code 1428 = .ok (.iconst 1, 1) := oc_4 shL_law_1428
theorem dL_law_1429 : decode code 1429 = .ok (.iadd, 1) := oc_96 shL_law_1429
theorem dL_law_1430 : decode code 1430 = .ok (.iaload, 1) := oc_46 shL_law_1430
theorem dL_law_1431 : decode code 1431 = .ok (.aload_n 0, 1) := oc_42 shL_law_1431
theorem dL_law_1432 : decode code 1432 = .ok (.iload_n 3, 1) := oc_29 shL_law_1432
theorem dL_law_1433 : decode code 1433 = .ok (.iconst 2, 1) := oc_5 shL_law_1433
theorem dL_law_1434 : decode code 1434 = .ok (.iadd, 1) := oc_96 shL_law_1434
theorem dL_law_1435 : decode code 1435 = .ok (.iaload, 1) := oc_46 shL_law_1435
theorem dL_law_1436 : decode code 1436 = .ok (.aload_n 0, 1) := oc_42 shL_law_1436
theorem dL_law_1437 : decode code 1437 = .ok (.iload_n 3, 1) := oc_29 shL_law_1437
theorem dL_law_1438 : decode code 1438 = .ok (.iconst 3, 1) := oc_6 shL_law_1438
theorem dL_law_1439 : decode code 1439 = .ok (.iadd, 1) := oc_96 shL_law_1439
theorem dL_law_1440 : decode code 1440 = .ok (.iaload, 1) := oc_46 shL_law_1440
theorem dL_law_1441 : decode code 1441 = .ok (.invokevirtual 160, 3) := oc_182 shL_law_1441
theorem dL_law_1444 : decode code 1444 = .ok (.pop2, 1) := oc_88 shL_law_1444
theorem dL_law_1445 : decode code 1445 = .ok (.goto 824, 3) := oc_167 shL_law_1445 sgw_3_56
theorem dL_law_1448 : decode code 1448 = .ok (.aload_n 1, 1) := oc_43 shL_law_1448
theorem dL_law_1449 : decode code 1449 = .ok (.aload_n 0, 1) := oc_42 shL_law_1449
theorem dL_law_1450 : decode code 1450 = .ok (.iload_n 3, 1) := oc_29 shL_law_1450
theorem dL_law_1451 : decode code 1451 = .ok (.iconst 1, 1) := oc_4 shL_law_1451
theorem dL_law_1452 : decode code 1452 = .ok (.iadd, 1) := oc_96 shL_law_1452
theorem dL_law_1453 : decode code 1453 = .ok (.iaload, 1) := oc_46 shL_law_1453
theorem dL_law_1454 : decode code 1454 = .ok (.aload_n 0, 1) := oc_42 shL_law_1454
theorem dL_law_1455 : decode code 1455 = .ok (.iload_n 3, 1) := oc_29 shL_law_1455
theorem dL_law_1456 : decode code 1456 = .ok (.iconst 2, 1) := oc_5 shL_law_1456
theorem dL_law_1457 : decode code 1457 = .ok (.iadd, 1) := oc_96 shL_law_1457
theorem dL_law_1458 : decode code 1458 = .ok (.iaload, 1) := oc_46 shL_law_1458
theorem dL_law_1459 : decode code 1459 = .ok (.invokevirtual 161, 3) := oc_182 shL_law_1459
theorem dL_law_1462 : decode code 1462 = .ok (.pop, 1) := oc_87 shL_law_1462
theorem dL_law_1463 : decode code 1463 = .ok (.aload_n 2, 1) := oc_44 shL_law_1463
theorem dL_law_1464 : decode code 1464 = .ok (.aload_n 0, 1) := oc_42 shL_law_1464
theorem dL_law_1465 : decode code 1465 = .ok (.iload_n 3, 1) := oc_29 shL_law_1465
theorem dL_law_1466 : decode code 1466 = .ok (.iconst 1, 1) := oc_4 shL_law_1466
theorem dL_law_1467 : decode code 1467 = .ok (.iadd, 1) := oc_96 shL_law_1467
theorem dL_law_1468 : decode code 1468 = .ok (.iaload, 1) := oc_46 shL_law_1468
theorem dL_law_1469 : decode code 1469 = .ok (.aload_n 0, 1) := oc_42 shL_law_1469
theorem dL_law_1470 : decode code 1470 = .ok (.iload_n 3, 1) := oc_29 shL_law_1470
theorem dL_law_1471 : decode code 1471 = .ok (.iconst 2, 1) := oc_5 shL_law_1471
theorem dL_law_1472 : decode code 1472 = .ok (.iadd, 1) := oc_96 shL_law_1472
theorem dL_law_1473 : decode code 1473 = .ok (.iaload, 1) := oc_46 shL_law_1473
theorem dL_law_1474 : decode code 1474 = .ok (.invokevirtual 164, 3) := oc_182 shL_law_1474
theorem dL_law_1477 : decode code 1477 = .ok (.pop, 1) := oc_87 shL_law_1477
theorem dL_law_1478 : decode code 1478 = .ok (.goto 791, 3) := oc_167 shL_law_1478 sgw_3_23
theorem dL_law_1481 : decode code 1481 = .ok (.aload_n 1, 1) := oc_43 shL_law_1481
theorem dL_law_1482 : decode code 1482 = .ok (.aload_n 0, 1) := oc_42 shL_law_1482
theorem dL_law_1483 : decode code 1483 = .ok (.iload_n 3, 1) := oc_29 shL_law_1483
theorem dL_law_1484 : decode code 1484 = .ok (.iconst 1, 1) := oc_4 shL_law_1484
theorem dL_law_1485 : decode code 1485 = .ok (.iadd, 1) := oc_96 shL_law_1485
theorem dL_law_1486 : decode code 1486 = .ok (.iaload, 1) := oc_46 shL_law_1486
theorem dL_law_1487 : decode code 1487 = .ok (.invokevirtual 165, 3) := oc_182 shL_law_1487
theorem dL_law_1490 : decode code 1490 = .ok (.pop, 1) := oc_87 shL_law_1490
theorem dL_law_1491 : decode code 1491 = .ok (.aload_n 2, 1) := oc_44 shL_law_1491
theorem dL_law_1492 : decode code 1492 = .ok (.aload_n 0, 1) := oc_42 shL_law_1492
theorem dL_law_1493 : decode code 1493 = .ok (.iload_n 3, 1) := oc_29 shL_law_1493
theorem dL_law_1494 : decode code 1494 = .ok (.iconst 1, 1) := oc_4 shL_law_1494
theorem dL_law_1495 : decode code 1495 = .ok (.iadd, 1) := oc_96 shL_law_1495
theorem dL_law_1496 : decode code 1496 = .ok (.iaload, 1) := oc_46 shL_law_1496
theorem dL_law_1497 : decode code 1497 = .ok (.invokevirtual 168, 3) := oc_182 shL_law_1497
theorem dL_law_1500 : decode code 1500 = .ok (.pop, 1) := oc_87 shL_law_1500
theorem dL_law_1501 : decode code 1501 = .ok (.goto 768, 3) := oc_167 shL_law_1501 sgw_3_0
theorem dL_law_1504 : decode code 1504 = .ok (.aload_n 1, 1) := oc_43 shL_law_1504
theorem dL_law_1505 : decode code 1505 = .ok (.aload_n 0, 1) := oc_42 shL_law_1505
theorem dL_law_1506 : decode code 1506 = .ok (.iload_n 3, 1) := oc_29 shL_law_1506
theorem dL_law_1507 : decode code 1507 = .ok (.iconst 1, 1) := oc_4 shL_law_1507
theorem dL_law_1508 : decode code 1508 = .ok (.iadd, 1) := oc_96 shL_law_1508
theorem dL_law_1509 : decode code 1509 = .ok (.iaload, 1) := oc_46 shL_law_1509
theorem dL_law_1510 : decode code 1510 = .ok (.aload_n 0, 1) := oc_42 shL_law_1510
theorem dL_law_1511 : decode code 1511 = .ok (.iload_n 3, 1) := oc_29 shL_law_1511
theorem dL_law_1512 : decode code 1512 = .ok (.iconst 2, 1) := oc_5 shL_law_1512
theorem dL_law_1513 : decode code 1513 = .ok (.iadd, 1) := oc_96 shL_law_1513
theorem dL_law_1514 : decode code 1514 = .ok (.iaload, 1) := oc_46 shL_law_1514
theorem dL_law_1515 : decode code 1515 = .ok (.aload_n 0, 1) := oc_42 shL_law_1515
theorem dL_law_1516 : decode code 1516 = .ok (.iload_n 3, 1) := oc_29 shL_law_1516
theorem dL_law_1517 : decode code 1517 = .ok (.iconst 3, 1) := oc_6 shL_law_1517
theorem dL_law_1518 : decode code 1518 = .ok (.iadd, 1) := oc_96 shL_law_1518
theorem dL_law_1519 : decode code 1519 = .ok (.iaload, 1) := oc_46 shL_law_1519
theorem dL_law_1520 : decode code 1520 = .ok (.ifCond .eq 7, 3) := oc_153 shL_law_1520 sgw_0_7
theorem dL_law_1527 : decode code 1527 = .ok (.iconst 0, 1) := oc_3 shL_law_1527
theorem dL_law_1528 : decode code 1528 = .ok (.invokevirtual 169, 3) := oc_182 shL_law_1528
theorem dL_law_1531 : decode code 1531 = .ok (.pop, 1) := oc_87 shL_law_1531
theorem dL_law_1532 : decode code 1532 = .ok (.aload_n 2, 1) := oc_44 shL_law_1532
theorem dL_law_1533 : decode code 1533 = .ok (.aload_n 0, 1) := oc_42 shL_law_1533
theorem dL_law_1534 : decode code 1534 = .ok (.iload_n 3, 1) := oc_29 shL_law_1534
theorem dL_law_1535 : decode code 1535 = .ok (.iconst 1, 1) := oc_4 shL_law_1535
theorem dL_law_1536 : decode code 1536 = .ok (.iadd, 1) := oc_96 shL_law_1536
theorem dL_law_1537 : decode code 1537 = .ok (.iaload, 1) := oc_46 shL_law_1537
theorem dL_law_1538 : decode code 1538 = .ok (.aload_n 0, 1) := oc_42 shL_law_1538
theorem dL_law_1539 : decode code 1539 = .ok (.iload_n 3, 1) := oc_29 shL_law_1539
theorem dL_law_1540 : decode code 1540 = .ok (.iconst 2, 1) := oc_5 shL_law_1540
theorem dL_law_1541 : decode code 1541 = .ok (.iadd, 1) := oc_96 shL_law_1541
theorem dL_law_1542 : decode code 1542 = .ok (.iaload, 1) := oc_46 shL_law_1542
theorem dL_law_1543 : decode code 1543 = .ok (.aload_n 0, 1) := oc_42 shL_law_1543
theorem dL_law_1544 : decode code 1544 = .ok (.iload_n 3, 1) := oc_29 shL_law_1544
theorem dL_law_1545 : decode code 1545 = .ok (.iconst 3, 1) := oc_6 shL_law_1545
theorem dL_law_1546 : decode code 1546 = .ok (.iadd, 1) := oc_96 shL_law_1546
theorem dL_law_1547 : decode code 1547 = .ok (.iaload, 1) := oc_46 shL_law_1547
theorem dL_law_1548 : decode code 1548 = .ok (.ifCond .eq 7, 3) := oc_153 shL_law_1548 sgw_0_7
theorem dL_law_1555 : decode code 1555 = .ok (.iconst 0, 1) := oc_3 shL_law_1555
theorem dL_law_1556 : decode code 1556 = .ok (.invokevirtual 173, 3) := oc_182 shL_law_1556
theorem dL_law_1559 : decode code 1559 = .ok (.pop, 1) := oc_87 shL_law_1559
theorem dL_law_1560 : decode code 1560 = .ok (.goto 709, 3) := oc_167 shL_law_1560 sgw_2_197
theorem dL_law_1523 : decode code 1523 = .ok (.iconst 1, 1) := oc_4 shL_law_1523
theorem dL_law_1524 : decode code 1524 = .ok (.goto 4, 3) := oc_167 shL_law_1524 sgw_0_4
theorem dL_law_1551 : decode code 1551 = .ok (.iconst 1, 1) := oc_4 shL_law_1551
theorem dL_law_1552 : decode code 1552 = .ok (.goto 4, 3) := oc_167 shL_law_1552 sgw_0_4
theorem dL_law_1563 : decode code 1563 = .ok (.aload_n 1, 1) := oc_43 shL_law_1563
theorem dL_law_1564 : decode code 1564 = .ok (.aload_n 0, 1) := oc_42 shL_law_1564
theorem dL_law_1565 : decode code 1565 = .ok (.iload_n 3, 1) := oc_29 shL_law_1565
theorem dL_law_1566 : decode code 1566 = .ok (.iconst 1, 1) := oc_4 shL_law_1566
theorem dL_law_1567 : decode code 1567 = .ok (.iadd, 1) := oc_96 shL_law_1567
theorem dL_law_1568 : decode code 1568 = .ok (.iaload, 1) := oc_46 shL_law_1568
theorem dL_law_1569 : decode code 1569 = .ok (.aload_n 0, 1) := oc_42 shL_law_1569
theorem dL_law_1570 : decode code 1570 = .ok (.iload_n 3, 1) := oc_29 shL_law_1570
theorem dL_law_1571 : decode code 1571 = .ok (.iconst 2, 1) := oc_5 shL_law_1571
theorem dL_law_1572 : decode code 1572 = .ok (.iadd, 1) := oc_96 shL_law_1572
theorem dL_law_1573 : decode code 1573 = .ok (.iaload, 1) := oc_46 shL_law_1573
theorem dL_law_1574 : decode code 1574 = .ok (.aload_n 0, 1) := oc_42 shL_law_1574
theorem dL_law_1575 : decode code 1575 = .ok (.iload_n 3, 1) := oc_29 shL_law_1575
theorem dL_law_1576 : decode code 1576 = .ok (.iconst 3, 1) := oc_6 shL_law_1576
theorem dL_law_1577 : decode code 1577 = .ok (.iadd, 1) := oc_96 shL_law_1577
theorem dL_law_1578 : decode code 1578 = .ok (.iaload, 1) := oc_46 shL_law_1578
theorem dL_law_1579 : decode code 1579 = .ok (.invokevirtual 174, 3) := oc_182 shL_law_1579
theorem dL_law_1582 : decode code 1582 = .ok (.pop, 1) := oc_87 shL_law_1582
theorem dL_law_1583 : decode code 1583 = .ok (.aload_n 2, 1) := oc_44 shL_law_1583
theorem dL_law_1584 : decode code 1584 = .ok (.aload_n 0, 1) := oc_42 shL_law_1584
theorem dL_law_1585 : decode code 1585 = .ok (.iload_n 3, 1) := oc_29 shL_law_1585
theorem dL_law_1586 : decode code 1586 = .ok (.iconst 1, 1) := oc_4 shL_law_1586
theorem dL_law_1587 : decode code 1587 = .ok (.iadd, 1) := oc_96 shL_law_1587
theorem dL_law_1588 : decode code 1588 = .ok (.iaload, 1) := oc_46 shL_law_1588
theorem dL_law_1589 : decode code 1589 = .ok (.aload_n 0, 1) := oc_42 shL_law_1589
theorem dL_law_1590 : decode code 1590 = .ok (.iload_n 3, 1) := oc_29 shL_law_1590
theorem dL_law_1591 : decode code 1591 = .ok (.iconst 2, 1) := oc_5 shL_law_1591
theorem dL_law_1592 : decode code 1592 = .ok (.iadd, 1) := oc_96 shL_law_1592
theorem dL_law_1593 : decode code 1593 = .ok (.iaload, 1) := oc_46 shL_law_1593
theorem dL_law_1594 : decode code 1594 = .ok (.aload_n 0, 1) := oc_42 shL_law_1594
theorem dL_law_1595 : decode code 1595 = .ok (.iload_n 3, 1) := oc_29 shL_law_1595
theorem dL_law_1596 : decode code 1596 = .ok (.iconst 3, 1) := oc_6 shL_law_1596
theorem dL_law_1597 : decode code 1597 = .ok (.iadd, 1) := oc_96 shL_law_1597
theorem dL_law_1598 : decode code 1598 = .ok (.iaload, 1) := oc_46 shL_law_1598
theorem dL_law_1599 : decode code 1599 = .ok (.invokevirtual 177, 3) := oc_182 shL_law_1599
theorem dL_law_1602 : decode code 1602 = .ok (.pop, 1) := oc_87 shL_law_1602
theorem dL_law_1603 : decode code 1603 = .ok (.goto 666, 3) := oc_167 shL_law_1603 sgw_2_154
theorem dL_law_1606 : decode code 1606 = .ok (.aload_n 1, 1) := oc_43 shL_law_1606
theorem dL_law_1607 : decode code 1607 = .ok (.aload_n 0, 1) := oc_42 shL_law_1607
theorem dL_law_1608 : decode code 1608 = .ok (.iload_n 3, 1) := oc_29 shL_law_1608
theorem dL_law_1609 : decode code 1609 = .ok (.iconst 1, 1) := oc_4 shL_law_1609
theorem dL_law_1610 : decode code 1610 = .ok (.iadd, 1) := oc_96 shL_law_1610
theorem dL_law_1611 : decode code 1611 = .ok (.iaload, 1) := oc_46 shL_law_1611
theorem dL_law_1612 : decode code 1612 = .ok (.aload_n 0, 1) := oc_42 shL_law_1612
theorem dL_law_1613 : decode code 1613 = .ok (.iload_n 3, 1) := oc_29 shL_law_1613
theorem dL_law_1614 : decode code 1614 = .ok (.iconst 2, 1) := oc_5 shL_law_1614
theorem dL_law_1615 : decode code 1615 = .ok (.iadd, 1) := oc_96 shL_law_1615
theorem dL_law_1616 : decode code 1616 = .ok (.iaload, 1) := oc_46 shL_law_1616
theorem dL_law_1617 : decode code 1617 = .ok (.aload_n 0, 1) := oc_42 shL_law_1617
theorem dL_law_1618 : decode code 1618 = .ok (.iload_n 3, 1) := oc_29 shL_law_1618
theorem dL_law_1619 : decode code 1619 = .ok (.iconst 3, 1) := oc_6 shL_law_1619
theorem dL_law_1620 : decode code 1620 = .ok (.iadd, 1) := oc_96 shL_law_1620
theorem dL_law_1621 : decode code 1621 = .ok (.iaload, 1) := oc_46 shL_law_1621
theorem dL_law_1622 : decode code 1622 = .ok (.aload_n 0, 1) := oc_42 shL_law_1622
theorem dL_law_1623 : decode code 1623 = .ok (.iload_n 3, 1) := oc_29 shL_law_1623
theorem dL_law_1624 : decode code 1624 = .ok (.iconst 4, 1) := oc_7 shL_law_1624
theorem dL_law_1625 : decode code 1625 = .ok (.iadd, 1) := oc_96 shL_law_1625
theorem dL_law_1626 : decode code 1626 = .ok (.iaload, 1) := oc_46 shL_law_1626
theorem dL_law_1627 : decode code 1627 = .ok (.invokevirtual 178, 3) := oc_182 shL_law_1627
theorem dL_law_1630 : decode code 1630 = .ok (.pop, 1) := oc_87 shL_law_1630
theorem dL_law_1631 : decode code 1631 = .ok (.aload_n 2, 1) := oc_44 shL_law_1631
theorem dL_law_1632 : decode code 1632 = .ok (.aload_n 0, 1) := oc_42 shL_law_1632
theorem dL_law_1633 : decode code 1633 = .ok (.iload_n 3, 1) := oc_29 shL_law_1633
theorem dL_law_1634 : decode code 1634 = .ok (.iconst 1, 1) := oc_4 shL_law_1634
theorem dL_law_1635 : decode code 1635 = .ok (.iadd, 1) := oc_96 shL_law_1635
theorem dL_law_1636 : decode code 1636 = .ok (.iaload, 1) := oc_46 shL_law_1636
theorem dL_law_1637 : decode code 1637 = .ok (.aload_n 0, 1) := oc_42 shL_law_1637
theorem dL_law_1638 : decode code 1638 = .ok (.iload_n 3, 1) := oc_29 shL_law_1638
theorem dL_law_1639 : decode code 1639 = .ok (.iconst 2, 1) := oc_5 shL_law_1639
theorem dL_law_1640 : decode code 1640 = .ok (.iadd, 1) := oc_96 shL_law_1640
theorem dL_law_1641 : decode code 1641 = .ok (.iaload, 1) := oc_46 shL_law_1641
theorem dL_law_1642 : decode code 1642 = .ok (.aload_n 0, 1) := oc_42 shL_law_1642
theorem dL_law_1643 : decode code 1643 = .ok (.iload_n 3, 1) := oc_29 shL_law_1643
theorem dL_law_1644 : decode code 1644 = .ok (.iconst 3, 1) := oc_6 shL_law_1644
theorem dL_law_1645 : decode code 1645 = .ok (.iadd, 1) := oc_96 shL_law_1645
theorem dL_law_1646 : decode code 1646 = .ok (.iaload, 1) := oc_46 shL_law_1646
theorem dL_law_1647 : decode code 1647 = .ok (.aload_n 0, 1) := oc_42 shL_law_1647
theorem dL_law_1648 : decode code 1648 = .ok (.iload_n 3, 1) := oc_29 shL_law_1648
theorem dL_law_1649 : decode code 1649 = .ok (.iconst 4, 1) := oc_7 shL_law_1649
theorem dL_law_1650 : decode code 1650 = .ok (.iadd, 1) := oc_96 shL_law_1650
theorem dL_law_1651 : decode code 1651 = .ok (.iaload, 1) := oc_46 shL_law_1651
theorem dL_law_1652 : decode code 1652 = .ok (.invokevirtual 181, 3) := oc_182 shL_law_1652
theorem dL_law_1655 : decode code 1655 = .ok (.pop, 1) := oc_87 shL_law_1655
theorem dL_law_1656 : decode code 1656 = .ok (.goto 613, 3) := oc_167 shL_law_1656 sgw_2_101
theorem dL_law_1659 : decode code 1659 = .ok (.aload_n 1, 1) := oc_43 shL_law_1659
theorem dL_law_1660 : decode code 1660 = .ok (.aload_n 0, 1) := oc_42 shL_law_1660
theorem dL_law_1661 : decode code 1661 = .ok (.iload_n 3, 1) := oc_29 shL_law_1661
theorem dL_law_1662 : decode code 1662 = .ok (.iconst 1, 1) := oc_4 shL_law_1662
theorem dL_law_1663 : decode code 1663 = .ok (.iadd, 1) := oc_96 shL_law_1663
theorem dL_law_1664 : decode code 1664 = .ok (.iaload, 1) := oc_46 shL_law_1664
theorem dL_law_1665 : decode code 1665 = .ok (.aload_n 0, 1) := oc_42 shL_law_1665
theorem dL_law_1666 : decode code 1666 = .ok (.iload_n 3, 1) := oc_29 shL_law_1666
theorem dL_law_1667 : decode code 1667 = .ok (.iconst 2, 1) := oc_5 shL_law_1667
theorem dL_law_1668 : decode code 1668 = .ok (.iadd, 1) := oc_96 shL_law_1668
theorem dL_law_1669 : decode code 1669 = .ok (.iaload, 1) := oc_46 shL_law_1669
theorem dL_law_1670 : decode code 1670 = .ok (.invokevirtual 182, 3) := oc_182 shL_law_1670
theorem dL_law_1673 : decode code 1673 = .ok (.pop, 1) := oc_87 shL_law_1673
theorem dL_law_1674 : decode code 1674 = .ok (.aload_n 2, 1) := oc_44 shL_law_1674
theorem dL_law_1675 : decode code 1675 = .ok (.aload_n 0, 1) := oc_42 shL_law_1675
theorem dL_law_1676 : decode code 1676 = .ok (.iload_n 3, 1) := oc_29 shL_law_1676
theorem dL_law_1677 : decode code 1677 = .ok (.iconst 1, 1) := oc_4 shL_law_1677
theorem dL_law_1678 : decode code 1678 = .ok (.iadd, 1) := oc_96 shL_law_1678
theorem dL_law_1679 : decode code 1679 = .ok (.iaload, 1) := oc_46 shL_law_1679
theorem dL_law_1680 : decode code 1680 = .ok (.aload_n 0, 1) := oc_42 shL_law_1680
theorem dL_law_1681 : decode code 1681 = .ok (.iload_n 3, 1) := oc_29 shL_law_1681
theorem dL_law_1682 : decode code 1682 = .ok (.iconst 2, 1) := oc_5 shL_law_1682
theorem dL_law_1683 : decode code 1683 = .ok (.iadd, 1) := oc_96 shL_law_1683
theorem dL_law_1684 : decode code 1684 = .ok (.iaload, 1) := oc_46 shL_law_1684
theorem dL_law_1685 : decode code 1685 = .ok (.invokevirtual 185, 3) := oc_182 shL_law_1685
theorem dL_law_1688 : decode code 1688 = .ok (.pop, 1) := oc_87 shL_law_1688
theorem dL_law_1689 : decode code 1689 = .ok (.goto 580, 3) := oc_167 shL_law_1689 sgw_2_68
theorem dL_law_1692 : decode code 1692 = .ok (.aload_n 1, 1) := oc_43 shL_law_1692
theorem dL_law_1693 : decode code 1693 = .ok (.aload_n 0, 1) := oc_42 shL_law_1693
theorem dL_law_1694 : decode code 1694 = .ok (.iload_n 3, 1) := oc_29 shL_law_1694
theorem dL_law_1695 : decode code 1695 = .ok (.iconst 1, 1) := oc_4 shL_law_1695
theorem dL_law_1696 : decode code 1696 = .ok (.iadd, 1) := oc_96 shL_law_1696
theorem dL_law_1697 : decode code 1697 = .ok (.iaload, 1) := oc_46 shL_law_1697
theorem dL_law_1698 : decode code 1698 = .ok (.aload_n 0, 1) := oc_42 shL_law_1698
theorem dL_law_1699 : decode code 1699 = .ok (.iload_n 3, 1) := oc_29 shL_law_1699
theorem dL_law_1700 : decode code 1700 = .ok (.iconst 2, 1) := oc_5 shL_law_1700
theorem dL_law_1701 : decode code 1701 = .ok (.iadd, 1) := oc_96 shL_law_1701
theorem dL_law_1702 : decode code 1702 = .ok (.iaload, 1) := oc_46 shL_law_1702
theorem dL_law_1703 : decode code 1703 = .ok (.invokevirtual 186, 3) := oc_182 shL_law_1703
theorem dL_law_1706 : decode code 1706 = .ok (.pop, 1) := oc_87 shL_law_1706
theorem dL_law_1707 : decode code 1707 = .ok (.aload_n 2, 1) := oc_44 shL_law_1707
theorem dL_law_1708 : decode code 1708 = .ok (.aload_n 0, 1) := oc_42 shL_law_1708
theorem dL_law_1709 : decode code 1709 = .ok (.iload_n 3, 1) := oc_29 shL_law_1709
theorem dL_law_1710 : decode code 1710 = .ok (.iconst 1, 1) := oc_4 shL_law_1710
theorem dL_law_1711 : decode code 1711 = .ok (.iadd, 1) := oc_96 shL_law_1711
theorem dL_law_1712 : decode code 1712 = .ok (.iaload, 1) := oc_46 shL_law_1712
theorem dL_law_1713 : decode code 1713 = .ok (.aload_n 0, 1) := oc_42 shL_law_1713
theorem dL_law_1714 : decode code 1714 = .ok (.iload_n 3, 1) := oc_29 shL_law_1714
theorem dL_law_1715 : decode code 1715 = .ok (.iconst 2, 1) := oc_5 shL_law_1715
theorem dL_law_1716 : decode code 1716 = .ok (.iadd, 1) := oc_96 shL_law_1716
theorem dL_law_1717 : decode code 1717 = .ok (.iaload, 1) := oc_46 shL_law_1717
theorem dL_law_1718 : decode code 1718 = .ok (.invokevirtual 189, 3) := oc_182 shL_law_1718
theorem dL_law_1721 : decode code 1721 = .ok (.pop, 1) := oc_87 shL_law_1721
theorem dL_law_1722 : decode code 1722 = .ok (.goto 547, 3) := oc_167 shL_law_1722 sgw_2_35
theorem dL_law_1725 : decode code 1725 = .ok (.aload_n 1, 1) := oc_43 shL_law_1725
theorem dL_law_1726 : decode code 1726 = .ok (.invokevirtual 190, 3) := oc_182 shL_law_1726
theorem dL_law_1729 : decode code 1729 = .ok (.pop, 1) := oc_87 shL_law_1729
theorem dL_law_1730 : decode code 1730 = .ok (.aload_n 2, 1) := oc_44 shL_law_1730
theorem dL_law_1731 : decode code 1731 = .ok (.invokevirtual 193, 3) := oc_182 shL_law_1731
theorem dL_law_1734 : decode code 1734 = .ok (.pop, 1) := oc_87 shL_law_1734
theorem dL_law_1735 : decode code 1735 = .ok (.goto 534, 3) := oc_167 shL_law_1735 sgw_2_22
theorem dL_law_1738 : decode code 1738 = .ok (.aload_n 1, 1) := oc_43 shL_law_1738
theorem dL_law_1739 : decode code 1739 = .ok (.aload_n 0, 1) := oc_42 shL_law_1739
theorem dL_law_1740 : decode code 1740 = .ok (.iload_n 3, 1) := oc_29 shL_law_1740
theorem dL_law_1741 : decode code 1741 = .ok (.iconst 1, 1) := oc_4 shL_law_1741
theorem dL_law_1742 : decode code 1742 = .ok (.iadd, 1) := oc_96 shL_law_1742
theorem dL_law_1743 : decode code 1743 = .ok (.iaload, 1) := oc_46 shL_law_1743
theorem dL_law_1744 : decode code 1744 = .ok (.aload_n 0, 1) := oc_42 shL_law_1744
theorem dL_law_1745 : decode code 1745 = .ok (.iload_n 3, 1) := oc_29 shL_law_1745
theorem dL_law_1746 : decode code 1746 = .ok (.iconst 2, 1) := oc_5 shL_law_1746
theorem dL_law_1747 : decode code 1747 = .ok (.iadd, 1) := oc_96 shL_law_1747
theorem dL_law_1748 : decode code 1748 = .ok (.iaload, 1) := oc_46 shL_law_1748
theorem dL_law_1749 : decode code 1749 = .ok (.aload_n 0, 1) := oc_42 shL_law_1749
theorem dL_law_1750 : decode code 1750 = .ok (.iload_n 3, 1) := oc_29 shL_law_1750
theorem dL_law_1751 : decode code 1751 = .ok (.iconst 3, 1) := oc_6 shL_law_1751
theorem dL_law_1752 : decode code 1752 = .ok (.iadd, 1) := oc_96 shL_law_1752
theorem dL_law_1753 : decode code 1753 = .ok (.iaload, 1) := oc_46 shL_law_1753
theorem dL_law_1754 : decode code 1754 = .ok (.invokevirtual 194, 3) := oc_182 shL_law_1754
theorem dL_law_1757 : decode code 1757 = .ok (.pop, 1) := oc_87 shL_law_1757
theorem dL_law_1758 : decode code 1758 = .ok (.aload_n 2, 1) := oc_44 shL_law_1758
theorem dL_law_1759 : decode code 1759 = .ok (.aload_n 0, 1) := oc_42 shL_law_1759
theorem dL_law_1760 : decode code 1760 = .ok (.iload_n 3, 1) := oc_29 shL_law_1760
theorem dL_law_1761 : decode code 1761 = .ok (.iconst 1, 1) := oc_4 shL_law_1761
theorem dL_law_1762 : decode code 1762 = .ok (.iadd, 1) := oc_96 shL_law_1762
theorem dL_law_1763 : decode code 1763 = .ok (.iaload, 1) := oc_46 shL_law_1763
theorem dL_law_1764 : decode code 1764 = .ok (.aload_n 0, 1) := oc_42 shL_law_1764
theorem dL_law_1765 : decode code 1765 = .ok (.iload_n 3, 1) := oc_29 shL_law_1765
theorem dL_law_1766 : decode code 1766 = .ok (.iconst 2, 1) := oc_5 shL_law_1766
theorem dL_law_1767 : decode code 1767 = .ok (.iadd, 1) := oc_96 shL_law_1767
theorem dL_law_1768 : decode code 1768 = .ok (.iaload, 1) := oc_46 shL_law_1768
theorem dL_law_1769 : decode code 1769 = .ok (.aload_n 0, 1) := oc_42 shL_law_1769
theorem dL_law_1770 : decode code 1770 = .ok (.iload_n 3, 1) := oc_29 shL_law_1770
theorem dL_law_1771 : decode code 1771 = .ok (.iconst 3, 1) := oc_6 shL_law_1771
theorem dL_law_1772 : decode code 1772 = .ok (.iadd, 1) := oc_96 shL_law_1772
theorem dL_law_1773 : decode code 1773 = .ok (.iaload, 1) := oc_46 shL_law_1773
theorem dL_law_1774 : decode code 1774 = .ok (.invokevirtual 197, 3) := oc_182 shL_law_1774
theorem dL_law_1777 : decode code 1777 = .ok (.pop, 1) := oc_87 shL_law_1777
theorem dL_law_1778 : decode code 1778 = .ok (.goto 491, 3) := oc_167 shL_law_1778 sgw_1_235
theorem dL_law_1781 : decode code 1781 = .ok (.aload_n 1, 1) := oc_43 shL_law_1781
theorem dL_law_1782 : decode code 1782 = .ok (.aload_n 0, 1) := oc_42 shL_law_1782
theorem dL_law_1783 : decode code 1783 = .ok (.iload_n 3, 1) := oc_29 shL_law_1783
theorem dL_law_1784 : decode code 1784 = .ok (.iconst 1, 1) := oc_4 shL_law_1784
theorem dL_law_1785 : decode code 1785 = .ok (.iadd, 1) := oc_96 shL_law_1785
theorem dL_law_1786 : decode code 1786 = .ok (.iaload, 1) := oc_46 shL_law_1786
theorem dL_law_1787 : decode code 1787 = .ok (.aload_n 0, 1) := oc_42 shL_law_1787
theorem dL_law_1788 : decode code 1788 = .ok (.iload_n 3, 1) := oc_29 shL_law_1788
theorem dL_law_1789 : decode code 1789 = .ok (.iconst 2, 1) := oc_5 shL_law_1789
theorem dL_law_1790 : decode code 1790 = .ok (.iadd, 1) := oc_96 shL_law_1790
theorem dL_law_1791 : decode code 1791 = .ok (.iaload, 1) := oc_46 shL_law_1791
theorem dL_law_1792 : decode code 1792 = .ok (.invokevirtual 198, 3) := oc_182 shL_law_1792
theorem dL_law_1795 : decode code 1795 = .ok (.pop, 1) := oc_87 shL_law_1795
theorem dL_law_1796 : decode code 1796 = .ok (.aload_n 2, 1) := oc_44 shL_law_1796
theorem dL_law_1797 : decode code 1797 = .ok (.aload_n 0, 1) := oc_42 shL_law_1797
theorem dL_law_1798 : decode code 1798 = .ok (.iload_n 3, 1) := oc_29 shL_law_1798
theorem dL_law_1799 : decode code 1799 = .ok (.iconst 1, 1) := oc_4 shL_law_1799
theorem dL_law_1800 : decode code 1800 = .ok (.iadd, 1) := oc_96 shL_law_1800
theorem dL_law_1801 : decode code 1801 = .ok (.iaload, 1) := oc_46 shL_law_1801
theorem dL_law_1802 : decode code 1802 = .ok (.aload_n 0, 1) := oc_42 shL_law_1802
theorem dL_law_1803 : decode code 1803 = .ok (.iload_n 3, 1) := oc_29 shL_law_1803
theorem dL_law_1804 : decode code 1804 = .ok (.iconst 2, 1) := oc_5 shL_law_1804
theorem dL_law_1805 : decode code 1805 = .ok (.iadd, 1) := oc_96 shL_law_1805
theorem dL_law_1806 : decode code 1806 = .ok (.iaload, 1) := oc_46 shL_law_1806
theorem dL_law_1807 : decode code 1807 = .ok (.invokevirtual 201, 3) := oc_182 shL_law_1807
theorem dL_law_1810 : decode code 1810 = .ok (.pop, 1) := oc_87 shL_law_1810
theorem dL_law_1811 : decode code 1811 = .ok (.goto 458, 3) := oc_167 shL_law_1811 sgw_1_202
theorem dL_law_1814 : decode code 1814 = .ok (.aload_n 1, 1) := oc_43 shL_law_1814
theorem dL_law_1815 : decode code 1815 = .ok (.aload_n 0, 1) := oc_42 shL_law_1815
theorem dL_law_1816 : decode code 1816 = .ok (.iload_n 3, 1) := oc_29 shL_law_1816
theorem dL_law_1817 : decode code 1817 = .ok (.iconst 1, 1) := oc_4 shL_law_1817
theorem dL_law_1818 : decode code 1818 = .ok (.iadd, 1) := oc_96 shL_law_1818
theorem dL_law_1819 : decode code 1819 = .ok (.iaload, 1) := oc_46 shL_law_1819
theorem dL_law_1820 : decode code 1820 = .ok (.invokevirtual 202, 3) := oc_182 shL_law_1820
theorem dL_law_1823 : decode code 1823 = .ok (.pop, 1) := oc_87 shL_law_1823
theorem dL_law_1824 : decode code 1824 = .ok (.aload_n 2, 1) := oc_44 shL_law_1824
theorem dL_law_1825 : decode code 1825 = .ok (.aload_n 0, 1) := oc_42 shL_law_1825
theorem dL_law_1826 : decode code 1826 = .ok (.iload_n 3, 1) := oc_29 shL_law_1826
theorem dL_law_1827 : decode code 1827 = .ok (.iconst 1, 1) := oc_4 shL_law_1827
theorem dL_law_1828 : decode code 1828 = .ok (.iadd, 1) := oc_96 shL_law_1828
theorem dL_law_1829 : decode code 1829 = .ok (.iaload, 1) := oc_46 shL_law_1829
theorem dL_law_1830 : decode code 1830 = .ok (.invokevirtual 205, 3) := oc_182 shL_law_1830
theorem dL_law_1833 : decode code 1833 = .ok (.pop, 1) := oc_87 shL_law_1833
theorem dL_law_1834 : decode code 1834 = .ok (.goto 435, 3) := oc_167 shL_law_1834 sgw_1_179
set_option maxRecDepth 100000 in
set_option maxHeartbeats 4000000 in
theorem lawc_30 {p : Program} {l : Launch} {e : Env} {s : State} {m : MethodId} {below : List Frame} {meth : Method} {c : Code} {b L : Nat} {xs : Nat → Int32} (C0 : lw_At p s m meth c b L xs) (hLN : L ≤ 3584) {A : Nat → Prop} (hA : ∀ q : Nat, s.heap.size ≤ q → A q) (hbA : ¬ A b) {D : va_G} {cI cB cZ : ClassId} {zz qq vv : Nat} {bt : Nat → Int32} {g g2 : Nat → Nat} (hK : KK D cI cB cZ s) (hXS : XS D zz qq vv bt A s s.heap) {ad : Nat → Nat → Nat} {cn : Nat → Nat} {In : Nat → Int32} {Fn : Nat → Nat → Int32} {c3 : Nat → Nat} {I3 : Nat → Int32} {F3 : Nat → Nat → Int32} (hI : IX ad cn Fn) (hM : IMM c3 F3) (hR : RR cn Fn c3 F3) {H : Heap} {locs : List Loc} (hP : va_P D vwCl (wX cI (D.1 99) zz g ad cn In Fn ++ wM cI cB cZ g2 c3 I3 F3) H) (hD : va_D A (wX cI (D.1 99) zz g ad cn In Fn ++ wM cI cB cZ g2 c3 I3 F3)) (hS : va_S A s.heap H locs) {K N i : Nat} (hi : i + 7 ≤ L) (hKN : K + 8 ≤ 600000 ∧ N + 240 ≤ 7302250) {ls : Array Slot} (hl : lv_has ls 4 [(0, .ref b), (1, .ref (g 0)), (2, .ref (g2 100)), (3, .int (nI i))]) (kk : ∀ (ad : Nat → Nat → Nat) (cn : Nat → Nat) (In : Nat → Int32) (Fn : Nat → Nat → Int32) (c3 : Nat → Nat) (I3 : Nat → Int32) (F3 : Nat → Nat → Int32) (H : Heap) (locs : List Loc), IX ad cn Fn → IMM c3 F3 → RR cn Fn c3 F3 → va_P D vwCl (wX cI (D.1 99) zz g ad cn In Fn ++ wM cI cB cZ g2 c3 I3 F3) H → va_D A (wX cI (D.1 99) zz g ad cn In Fn ++ wM cI cB cZ g2 c3 I3 F3) → va_S A s.heap H locs → ∀ ls : Array Slot, lv_has ls 4 [(0, .ref b), (1, .ref (g 0)), (2, .ref (g2 100)), (3, .int (nI i))] → W p l e room_1 s m #[Value.ref b] below meth c H locs (K + 8) (N + 240) (lw_Z below #[Value.ref b] s) (F0 m 2269 ls [])) : W p l e room_1 s m #[Value.ref b] below meth c H locs K N (lw_Z below #[Value.ref b] s) (F0 m 1306 ls []) := by
  obtain ⟨hx, hb, hr, hml, hown, hts, hX, hbl, hlocks, hgv⟩ := id C0
  have S : SF p m c code 4 s #[Value.ref b] RL := ⟨hx, hb, hml, hown, fun w h => hts w (wT_lw h)⟩
  refine lv_aload_n hx hb dL_law_1306 rfl (lvA1 hl) ?_
  refine lv_aload_n hx hb dL_law_1307 rfl (lvA0 hl) ?_
  refine lv_iload_n hx hb dL_law_1308 rfl (lvA3 hl) ?_
  refine lv_iconst (v := 1) hx hb dL_law_1309 kic_1 ?_
  refine lv_iadd hx hb dL_law_1310 ?_
  refine lv_topi (fun y_1 ey_1 => ?_)
  obtain rfl : y_1 = nI (i + 1) := ey_1.trans (nI_add i 1)
  refine va_sld hx hb hX hbl hbA hS (vp_in_nI (by omega) (by omega)) dL_law_1311 ?_
  refine lv_topi (fun y_2 ey_2 => ?_)
  obtain rfl : y_2 = xs (nI (i + 1)).toNatClampNeg := ey_2
  refine lv_aload_n hx hb dL_law_1312 rfl (lvA0 hl) ?_
  refine lv_iload_n hx hb dL_law_1313 rfl (lvA3 hl) ?_
  refine lv_iconst (v := 2) hx hb dL_law_1314 kic_2 ?_
  refine lv_iadd hx hb dL_law_1315 ?_
  refine lv_topi (fun y_3 ey_3 => ?_)
  obtain rfl : y_3 = nI (i + 2) := ey_3.trans (nI_add i 2)
  refine va_sld hx hb hX hbl hbA hS (vp_in_nI (by omega) (by omega)) dL_law_1316 ?_
  refine lv_topi (fun y_4 ey_4 => ?_)
  obtain rfl : y_4 = xs (nI (i + 2)).toNatClampNeg := ey_4
  have hI0 := hI
  refine vp_callSi (runV_rxa (As := [.int (xs (nI (i + 1)).toNatClampNeg), .int (xs (nI (i + 2)).toNatClampNeg)]) (rest := []) S (q_Efirst l D cI cB cZ zz qq vv bt g ad cn In Fn (xs (nI (i + 1)).toNatClampNeg) (xs (nI (i + 2)).toNatClampNeg) hI.1) kV_RL_144 hK hXS hS (exP hP) 0 xo_0 rfl rfl ⟨Nat.le_of_ble_eq_true rfl, Nat.le_of_ble_eq_true rfl⟩ ⟨(by show K + 0 ≤ 600000; omega), (by show N + 0 ≤ 7302250; omega)⟩ rfl hl.1 rfl (Nat.le_of_ble_eq_true rfl) dL_law_1317) (fun r4 w4 => ?_)
  refine lv_aload_n hx hb dL_law_1320 rfl (lvA2 hl) ?_
  refine lv_aload_n hx hb dL_law_1321 rfl (lvA0 hl) ?_
  refine lv_iload_n hx hb dL_law_1322 rfl (lvA3 hl) ?_
  refine lv_iconst (v := 1) hx hb dL_law_1323 kic_1 ?_
  refine lv_iadd hx hb dL_law_1324 ?_
  refine lv_topi (fun y_6 ey_6 => ?_)
  obtain rfl : y_6 = nI (i + 1) := ey_6.trans (nI_add i 1)
  refine va_sld hx hb hX hbl hbA hS (vp_in_nI (by omega) (by omega)) dL_law_1325 ?_
  refine lv_topi (fun y_7 ey_7 => ?_)
  obtain rfl : y_7 = xs (nI (i + 1)).toNatClampNeg := ey_7
  refine lv_aload_n hx hb dL_law_1326 rfl (lvA0 hl) ?_
  refine lv_iload_n hx hb dL_law_1327 rfl (lvA3 hl) ?_
  refine lv_iconst (v := 2) hx hb dL_law_1328 kic_2 ?_
  refine lv_iadd hx hb dL_law_1329 ?_
  refine lv_topi (fun y_8 ey_8 => ?_)
  obtain rfl : y_8 = nI (i + 2) := ey_8.trans (nI_add i 2)
  refine va_sld hx hb hX hbl hbA hS (vp_in_nI (by omega) (by omega)) dL_law_1330 ?_
  refine lv_topi (fun y_9 ey_9 => ?_)
  obtain rfl : y_9 = xs (nI (i + 2)).toNatClampNeg := ey_9
  refine vp_callSi (runV_ra (As := [.int (xs (nI (i + 1)).toNatClampNeg), .int (xs (nI (i + 2)).toNatClampNeg)]) (rest := [.int r4]) S (q_first9 l D cI cB cZ g2 c3 I3 F3 (xs (nI (i + 1)).toNatClampNeg) (xs (nI (i + 2)).toNatClampNeg) hM.1) kV_RL_147 hK (exPr hP) 0 rfl rfl rfl ⟨Nat.le_of_ble_eq_true rfl, Nat.le_of_ble_eq_true rfl⟩ ⟨(by show K + 0 ≤ 600000; omega), (by show N + 0 ≤ 7302250; omega)⟩ rfl hl.1 rfl (Nat.le_of_ble_eq_true rfl) dL_law_1331) (fun r9 w9 => ?_)
  have he9 := eq_first hI0 hM hR w4 w9
  refine lv_icmp_eq (tgt := 2269) hx hb dL_law_1334 rfl (fun _ => ?_) (fun q => absurd he9 q)
  refine W.widen (k := K + 8) (n := N + 240) (by omega) (by omega) ?_
  exact kk _ _ _ _ _ _ _ _ _ hI hM hR hP hD hS ls hl
set_option maxRecDepth 100000 in
set_option maxHeartbeats 4000000 in
theorem lawc_31 {p : Program} {l : Launch} {e : Env} {s : State} {m : MethodId} {below : List Frame} {meth : Method} {c : Code} {b L : Nat} {xs : Nat → Int32} (C0 : lw_At p s m meth c b L xs) (hLN : L ≤ 3584) {A : Nat → Prop} (hA : ∀ q : Nat, s.heap.size ≤ q → A q) (hbA : ¬ A b) {D : va_G} {cI cB cZ : ClassId} {zz qq vv : Nat} {bt : Nat → Int32} {g g2 : Nat → Nat} (hK : KK D cI cB cZ s) (hXS : XS D zz qq vv bt A s s.heap) {ad : Nat → Nat → Nat} {cn : Nat → Nat} {In : Nat → Int32} {Fn : Nat → Nat → Int32} {c3 : Nat → Nat} {I3 : Nat → Int32} {F3 : Nat → Nat → Int32} (hI : IX ad cn Fn) (hM : IMM c3 F3) (hR : RR cn Fn c3 F3) {H : Heap} {locs : List Loc} (hP : va_P D vwCl (wX cI (D.1 99) zz g ad cn In Fn ++ wM cI cB cZ g2 c3 I3 F3) H) (hD : va_D A (wX cI (D.1 99) zz g ad cn In Fn ++ wM cI cB cZ g2 c3 I3 F3)) (hS : va_S A s.heap H locs) {K N i : Nat} (hi : i + 7 ≤ L) (hKN : K + 8 ≤ 600000 ∧ N + 240 ≤ 7302250) {ls : Array Slot} (hl : lv_has ls 4 [(0, .ref b), (1, .ref (g 0)), (2, .ref (g2 100)), (3, .int (nI i))]) (kk : ∀ (ad : Nat → Nat → Nat) (cn : Nat → Nat) (In : Nat → Int32) (Fn : Nat → Nat → Int32) (c3 : Nat → Nat) (I3 : Nat → Int32) (F3 : Nat → Nat → Int32) (H : Heap) (locs : List Loc), IX ad cn Fn → IMM c3 F3 → RR cn Fn c3 F3 → va_P D vwCl (wX cI (D.1 99) zz g ad cn In Fn ++ wM cI cB cZ g2 c3 I3 F3) H → va_D A (wX cI (D.1 99) zz g ad cn In Fn ++ wM cI cB cZ g2 c3 I3 F3) → va_S A s.heap H locs → ∀ ls : Array Slot, lv_has ls 4 [(0, .ref b), (1, .ref (g 0)), (2, .ref (g2 100)), (3, .int (nI i))] → W p l e room_1 s m #[Value.ref b] below meth c H locs (K + 8) (N + 240) (lw_Z below #[Value.ref b] s) (F0 m 2269 ls [])) : W p l e room_1 s m #[Value.ref b] below meth c H locs K N (lw_Z below #[Value.ref b] s) (F0 m 1339 ls []) := by
  obtain ⟨hx, hb, hr, hml, hown, hts, hX, hbl, hlocks, hgv⟩ := id C0
  have S : SF p m c code 4 s #[Value.ref b] RL := ⟨hx, hb, hml, hown, fun w h => hts w (wT_lw h)⟩
  refine lv_aload_n hx hb dL_law_1339 rfl (lvA1 hl) ?_
  refine lv_aload_n hx hb dL_law_1340 rfl (lvA0 hl) ?_
  refine lv_iload_n hx hb dL_law_1341 rfl (lvA3 hl) ?_
  refine lv_iconst (v := 1) hx hb dL_law_1342 kic_1 ?_
  refine lv_iadd hx hb dL_law_1343 ?_
  refine lv_topi (fun y_1 ey_1 => ?_)
  obtain rfl : y_1 = nI (i + 1) := ey_1.trans (nI_add i 1)
  refine va_sld hx hb hX hbl hbA hS (vp_in_nI (by omega) (by omega)) dL_law_1344 ?_
  refine lv_topi (fun y_2 ey_2 => ?_)
  obtain rfl : y_2 = xs (nI (i + 1)).toNatClampNeg := ey_2
  refine lv_aload_n hx hb dL_law_1345 rfl (lvA0 hl) ?_
  refine lv_iload_n hx hb dL_law_1346 rfl (lvA3 hl) ?_
  refine lv_iconst (v := 2) hx hb dL_law_1347 kic_2 ?_
  refine lv_iadd hx hb dL_law_1348 ?_
  refine lv_topi (fun y_3 ey_3 => ?_)
  obtain rfl : y_3 = nI (i + 2) := ey_3.trans (nI_add i 2)
  refine va_sld hx hb hX hbl hbA hS (vp_in_nI (by omega) (by omega)) dL_law_1349 ?_
  refine lv_topi (fun y_4 ey_4 => ?_)
  obtain rfl : y_4 = xs (nI (i + 2)).toNatClampNeg := ey_4
  have hFc := free_all (exD hD) hS hA
  refine va_calli (runV_xa (As := [.int (xs (nI (i + 1)).toNatClampNeg), .int (xs (nI (i + 2)).toNatClampNeg)]) (rest := []) S (q_Xstreet l D cI cB cZ zz qq vv bt g ad cn In Fn (xs (nI (i + 1)).toNatClampNeg) (xs (nI (i + 2)).toNatClampNeg) H.size hI.1) kV_RL_148 hK hXS hS hFc (exP hP) (exD hD) 0 xo_0 rfl rfl ⟨Nat.le_of_ble_eq_true rfl, Nat.le_of_ble_eq_true rfl⟩ ⟨(by show K + 0 ≤ 600000; omega), (by show N + 0 ≤ 7302250; omega)⟩ rfl hl.1 rfl (Nat.le_of_ble_eq_true rfl) dL_law_1350) hS (fun q _ h => hFc q h) hFc (fun r4 u t H1 locs ht hvm w4 hB1 hz1 hk1 hS => ?_)
  obtain ⟨c4, I4, F4⟩ := u
  obtain ⟨hP1, hD1⟩ := hB1
  rw [ht] at hP1
  obtain ⟨hP, hD⟩ := exjoinL hP hD hk1 hFc hP1 hD1
  generalize H1 = H at hP hS ⊢
  have hd4 := w4.1.1
  have hf4 := w4.1.2.2
  have hI := IX.fr hI w4.1 w4.2.1 (by decide) (by decide)
  have hR := RR.fx hR hd4 hf4 (by decide) (by decide)
  refine lv_pop hx hb dL_law_1353 rfl ?_
  refine lv_aload_n hx hb dL_law_1354 rfl (lvA2 hl) ?_
  refine lv_aload_n hx hb dL_law_1355 rfl (lvA0 hl) ?_
  refine lv_iload_n hx hb dL_law_1356 rfl (lvA3 hl) ?_
  refine lv_iconst (v := 1) hx hb dL_law_1357 kic_1 ?_
  refine lv_iadd hx hb dL_law_1358 ?_
  refine lv_topi (fun y_6 ey_6 => ?_)
  obtain rfl : y_6 = nI (i + 1) := ey_6.trans (nI_add i 1)
  refine va_sld hx hb hX hbl hbA hS (vp_in_nI (by omega) (by omega)) dL_law_1359 ?_
  refine lv_topi (fun y_7 ey_7 => ?_)
  obtain rfl : y_7 = xs (nI (i + 1)).toNatClampNeg := ey_7
  refine lv_aload_n hx hb dL_law_1360 rfl (lvA0 hl) ?_
  refine lv_iload_n hx hb dL_law_1361 rfl (lvA3 hl) ?_
  refine lv_iconst (v := 2) hx hb dL_law_1362 kic_2 ?_
  refine lv_iadd hx hb dL_law_1363 ?_
  refine lv_topi (fun y_8 ey_8 => ?_)
  obtain rfl : y_8 = nI (i + 2) := ey_8.trans (nI_add i 2)
  refine va_sld hx hb hX hbl hbA hS (vp_in_nI (by omega) (by omega)) dL_law_1364 ?_
  refine lv_topi (fun y_9 ey_9 => ?_)
  obtain rfl : y_9 = xs (nI (i + 2)).toNatClampNeg := ey_9
  have hFc := free_all (exDr hD) hS hA
  refine va_calli (runV_a (As := [.int (xs (nI (i + 1)).toNatClampNeg), .int (xs (nI (i + 2)).toNatClampNeg)]) (rest := []) S (q_street l D cI cB cZ g2 c3 I3 F3 (xs (nI (i + 1)).toNatClampNeg) (xs (nI (i + 2)).toNatClampNeg) H.size hM.1) kV_RL_151 hK (exPr hP) (exDr hD) 0 rfl rfl rfl ⟨Nat.le_of_ble_eq_true rfl, Nat.le_of_ble_eq_true rfl⟩ ⟨(by show K + 0 ≤ 600000; omega), (by show N + 0 ≤ 7302250; omega)⟩ rfl hl.1 rfl (Nat.le_of_ble_eq_true rfl) dL_law_1365) hS (fun q _ h => hFc q h) hFc (fun r9 u t H1 locs ht hvm w9 hB1 hz1 hk1 hS => ?_)
  obtain ⟨c9, I9, F9⟩ := u
  obtain ⟨hP1, hD1⟩ := hB1
  rw [ht] at hP1
  obtain ⟨hP, hD⟩ := exjoin hP hD hk1 hFc hP1 hD1
  generalize H1 = H at hP hS ⊢
  obtain ⟨hM, hd9, hf9⟩ := imm_street hM w9
  have hR := RR.fm hR hd9 hf9 (by decide) (by decide)
  refine lv_pop hx hb dL_law_1368 rfl ?_
  refine lv_goto (tgt := 2269) hx hb dL_law_1369 rfl ?_
  refine W.widen (k := K + 8) (n := N + 240) (by omega) (by omega) ?_
  exact kk _ _ _ _ _ _ _ _ _ hI hM hR hP hD hS ls hl
set_option maxRecDepth 100000 in
set_option maxHeartbeats 4000000 in
theorem lawc_32 {p : Program} {l : Launch} {e : Env} {s : State} {m : MethodId} {below : List Frame} {meth : Method} {c : Code} {b L : Nat} {xs : Nat → Int32} (C0 : lw_At p s m meth c b L xs) (hLN : L ≤ 3584) {A : Nat → Prop} (hA : ∀ q : Nat, s.heap.size ≤ q → A q) (hbA : ¬ A b) {D : va_G} {cI cB cZ : ClassId} {zz qq vv : Nat} {bt : Nat → Int32} {g g2 : Nat → Nat} (hK : KK D cI cB cZ s) (hXS : XS D zz qq vv bt A s s.heap) {ad : Nat → Nat → Nat} {cn : Nat → Nat} {In : Nat → Int32} {Fn : Nat → Nat → Int32} {c3 : Nat → Nat} {I3 : Nat → Int32} {F3 : Nat → Nat → Int32} (hI : IX ad cn Fn) (hM : IMM c3 F3) (hR : RR cn Fn c3 F3) {H : Heap} {locs : List Loc} (hP : va_P D vwCl (wX cI (D.1 99) zz g ad cn In Fn ++ wM cI cB cZ g2 c3 I3 F3) H) (hD : va_D A (wX cI (D.1 99) zz g ad cn In Fn ++ wM cI cB cZ g2 c3 I3 F3)) (hS : va_S A s.heap H locs) {K N i : Nat} (hi : i + 7 ≤ L) (hKN : K + 8 ≤ 600000 ∧ N + 240 ≤ 7302250) {ls : Array Slot} (hl : lv_has ls 4 [(0, .ref b), (1, .ref (g 0)), (2, .ref (g2 100)), (3, .int (nI i))]) (kk : ∀ (ad : Nat → Nat → Nat) (cn : Nat → Nat) (In : Nat → Int32) (Fn : Nat → Nat → Int32) (c3 : Nat → Nat) (I3 : Nat → Int32) (F3 : Nat → Nat → Int32) (H : Heap) (locs : List Loc), IX ad cn Fn → IMM c3 F3 → RR cn Fn c3 F3 → va_P D vwCl (wX cI (D.1 99) zz g ad cn In Fn ++ wM cI cB cZ g2 c3 I3 F3) H → va_D A (wX cI (D.1 99) zz g ad cn In Fn ++ wM cI cB cZ g2 c3 I3 F3) → va_S A s.heap H locs → ∀ ls : Array Slot, lv_has ls 4 [(0, .ref b), (1, .ref (g 0)), (2, .ref (g2 100)), (3, .int (nI i))] → W p l e room_1 s m #[Value.ref b] below meth c H locs (K + 8) (N + 240) (lw_Z below #[Value.ref b] s) (F0 m 2269 ls [])) : W p l e room_1 s m #[Value.ref b] below meth c H locs K N (lw_Z below #[Value.ref b] s) (F0 m 1372 ls []) := by
  obtain ⟨hx, hb, hr, hml, hown, hts, hX, hbl, hlocks, hgv⟩ := id C0
  have S : SF p m c code 4 s #[Value.ref b] RL := ⟨hx, hb, hml, hown, fun w h => hts w (wT_lw h)⟩
  refine lv_aload_n hx hb dL_law_1372 rfl (lvA1 hl) ?_
  refine lv_aload_n hx hb dL_law_1373 rfl (lvA0 hl) ?_
  refine lv_iload_n hx hb dL_law_1374 rfl (lvA3 hl) ?_
  refine lv_iconst (v := 1) hx hb dL_law_1375 kic_1 ?_
  refine lv_iadd hx hb dL_law_1376 ?_
  refine lv_topi (fun y_1 ey_1 => ?_)
  obtain rfl : y_1 = nI (i + 1) := ey_1.trans (nI_add i 1)
  refine va_sld hx hb hX hbl hbA hS (vp_in_nI (by omega) (by omega)) dL_law_1377 ?_
  refine lv_topi (fun y_2 ey_2 => ?_)
  obtain rfl : y_2 = xs (nI (i + 1)).toNatClampNeg := ey_2
  refine lv_aload_n hx hb dL_law_1378 rfl (lvA0 hl) ?_
  refine lv_iload_n hx hb dL_law_1379 rfl (lvA3 hl) ?_
  refine lv_iconst (v := 2) hx hb dL_law_1380 kic_2 ?_
  refine lv_iadd hx hb dL_law_1381 ?_
  refine lv_topi (fun y_3 ey_3 => ?_)
  obtain rfl : y_3 = nI (i + 2) := ey_3.trans (nI_add i 2)
  refine va_sld hx hb hX hbl hbA hS (vp_in_nI (by omega) (by omega)) dL_law_1382 ?_
  refine lv_topi (fun y_4 ey_4 => ?_)
  obtain rfl : y_4 = xs (nI (i + 2)).toNatClampNeg := ey_4
  refine vp_callSl (runV_rxa (As := [.int (xs (nI (i + 1)).toNatClampNeg), .int (xs (nI (i + 2)).toNatClampNeg)]) (rest := []) S (q_Xstreets l D cI cB cZ zz qq vv bt g ad cn In Fn (xs (nI (i + 1)).toNatClampNeg) (xs (nI (i + 2)).toNatClampNeg) hI.1) kV_RL_152 hK hXS hS (exP hP) 0 xo_0 rfl rfl ⟨Nat.le_of_ble_eq_true rfl, Nat.le_of_ble_eq_true rfl⟩ ⟨(by show K + 0 ≤ 600000; omega), (by show N + 0 ≤ 7302250; omega)⟩ rfl hl.1 rfl (Nat.le_of_ble_eq_true rfl) dL_law_1383) (fun r4 w4 => ?_)
  refine lv_pop2_2 hx hb dL_law_1386 rfl ?_
  refine lv_aload_n hx hb dL_law_1387 rfl (lvA2 hl) ?_
  refine lv_aload_n hx hb dL_law_1388 rfl (lvA0 hl) ?_
  refine lv_iload_n hx hb dL_law_1389 rfl (lvA3 hl) ?_
  refine lv_iconst (v := 1) hx hb dL_law_1390 kic_1 ?_
  refine lv_iadd hx hb dL_law_1391 ?_
  refine lv_topi (fun y_6 ey_6 => ?_)
  obtain rfl : y_6 = nI (i + 1) := ey_6.trans (nI_add i 1)
  refine va_sld hx hb hX hbl hbA hS (vp_in_nI (by omega) (by omega)) dL_law_1392 ?_
  refine lv_topi (fun y_7 ey_7 => ?_)
  obtain rfl : y_7 = xs (nI (i + 1)).toNatClampNeg := ey_7
  refine lv_aload_n hx hb dL_law_1393 rfl (lvA0 hl) ?_
  refine lv_iload_n hx hb dL_law_1394 rfl (lvA3 hl) ?_
  refine lv_iconst (v := 2) hx hb dL_law_1395 kic_2 ?_
  refine lv_iadd hx hb dL_law_1396 ?_
  refine lv_topi (fun y_8 ey_8 => ?_)
  obtain rfl : y_8 = nI (i + 2) := ey_8.trans (nI_add i 2)
  refine va_sld hx hb hX hbl hbA hS (vp_in_nI (by omega) (by omega)) dL_law_1397 ?_
  refine lv_topi (fun y_9 ey_9 => ?_)
  obtain rfl : y_9 = xs (nI (i + 2)).toNatClampNeg := ey_9
  refine vp_callSl (runV_ra (As := [.int (xs (nI (i + 1)).toNatClampNeg), .int (xs (nI (i + 2)).toNatClampNeg)]) (rest := []) S (q_streets l D cI cB cZ g2 c3 I3 F3 (xs (nI (i + 1)).toNatClampNeg) (xs (nI (i + 2)).toNatClampNeg) hM.1) kV_RL_155 hK (exPr hP) 0 rfl rfl rfl ⟨Nat.le_of_ble_eq_true rfl, Nat.le_of_ble_eq_true rfl⟩ ⟨(by show K + 0 ≤ 600000; omega), (by show N + 0 ≤ 7302250; omega)⟩ rfl hl.1 rfl (Nat.le_of_ble_eq_true rfl) dL_law_1398) (fun r9 w9 => ?_)
  refine lv_pop2_2 hx hb dL_law_1401 rfl ?_
  refine lv_goto (tgt := 2269) hx hb dL_law_1402 rfl ?_
  refine W.widen (k := K + 8) (n := N + 240) (by omega) (by omega) ?_
  exact kk _ _ _ _ _ _ _ _ _ hI hM hR hP hD hS ls hl
set_option maxRecDepth 100000 in
set_option maxHeartbeats 4000000 in
theorem lawc_33 {p : Program} {l : Launch} {e : Env} {s : State} {m : MethodId} {below : List Frame} {meth : Method} {c : Code} {b L : Nat} {xs : Nat → Int32} (C0 : lw_At p s m meth c b L xs) (hLN : L ≤ 3584) {A : Nat → Prop} (hA : ∀ q : Nat, s.heap.size ≤ q → A q) (hbA : ¬ A b) {D : va_G} {cI cB cZ : ClassId} {zz qq vv : Nat} {bt : Nat → Int32} {g g2 : Nat → Nat} (hK : KK D cI cB cZ s) (hXS : XS D zz qq vv bt A s s.heap) {ad : Nat → Nat → Nat} {cn : Nat → Nat} {In : Nat → Int32} {Fn : Nat → Nat → Int32} {c3 : Nat → Nat} {I3 : Nat → Int32} {F3 : Nat → Nat → Int32} (hI : IX ad cn Fn) (hM : IMM c3 F3) (hR : RR cn Fn c3 F3) {H : Heap} {locs : List Loc} (hP : va_P D vwCl (wX cI (D.1 99) zz g ad cn In Fn ++ wM cI cB cZ g2 c3 I3 F3) H) (hD : va_D A (wX cI (D.1 99) zz g ad cn In Fn ++ wM cI cB cZ g2 c3 I3 F3)) (hS : va_S A s.heap H locs) {K N i : Nat} (hi : i + 7 ≤ L) (hKN : K + 8 ≤ 600000 ∧ N + 240 ≤ 7302250) {ls : Array Slot} (hl : lv_has ls 4 [(0, .ref b), (1, .ref (g 0)), (2, .ref (g2 100)), (3, .int (nI i))]) (kk : ∀ (ad : Nat → Nat → Nat) (cn : Nat → Nat) (In : Nat → Int32) (Fn : Nat → Nat → Int32) (c3 : Nat → Nat) (I3 : Nat → Int32) (F3 : Nat → Nat → Int32) (H : Heap) (locs : List Loc), IX ad cn Fn → IMM c3 F3 → RR cn Fn c3 F3 → va_P D vwCl (wX cI (D.1 99) zz g ad cn In Fn ++ wM cI cB cZ g2 c3 I3 F3) H → va_D A (wX cI (D.1 99) zz g ad cn In Fn ++ wM cI cB cZ g2 c3 I3 F3) → va_S A s.heap H locs → ∀ ls : Array Slot, lv_has ls 4 [(0, .ref b), (1, .ref (g 0)), (2, .ref (g2 100)), (3, .int (nI i))] → W p l e room_1 s m #[Value.ref b] below meth c H locs (K + 8) (N + 240) (lw_Z below #[Value.ref b] s) (F0 m 2269 ls [])) : W p l e room_1 s m #[Value.ref b] below meth c H locs K N (lw_Z below #[Value.ref b] s) (F0 m 1405 ls []) := by
  obtain ⟨hx, hb, hr, hml, hown, hts, hX, hbl, hlocks, hgv⟩ := id C0
  have S : SF p m c code 4 s #[Value.ref b] RL := ⟨hx, hb, hml, hown, fun w h => hts w (wT_lw h)⟩
  refine lv_aload_n hx hb dL_law_1405 rfl (lvA1 hl) ?_
  refine lv_aload_n hx hb dL_law_1406 rfl (lvA0 hl) ?_
  refine lv_iload_n hx hb dL_law_1407 rfl (lvA3 hl) ?_
  refine lv_iconst (v := 1) hx hb dL_law_1408 kic_1 ?_
  refine lv_iadd hx hb dL_law_1409 ?_
  refine lv_topi (fun y_1 ey_1 => ?_)
  obtain rfl : y_1 = nI (i + 1) := ey_1.trans (nI_add i 1)
  refine va_sld hx hb hX hbl hbA hS (vp_in_nI (by omega) (by omega)) dL_law_1410 ?_
  refine lv_topi (fun y_2 ey_2 => ?_)
  obtain rfl : y_2 = xs (nI (i + 1)).toNatClampNeg := ey_2
  refine lv_aload_n hx hb dL_law_1411 rfl (lvA0 hl) ?_
  refine lv_iload_n hx hb dL_law_1412 rfl (lvA3 hl) ?_
  refine lv_iconst (v := 2) hx hb dL_law_1413 kic_2 ?_
  refine lv_iadd hx hb dL_law_1414 ?_
  refine lv_topi (fun y_3 ey_3 => ?_)
  obtain rfl : y_3 = nI (i + 2) := ey_3.trans (nI_add i 2)
  refine va_sld hx hb hX hbl hbA hS (vp_in_nI (by omega) (by omega)) dL_law_1415 ?_
  refine lv_topi (fun y_4 ey_4 => ?_)
  obtain rfl : y_4 = xs (nI (i + 2)).toNatClampNeg := ey_4
  refine lv_aload_n hx hb dL_law_1416 rfl (lvA0 hl) ?_
  refine lv_iload_n hx hb dL_law_1417 rfl (lvA3 hl) ?_
  refine lv_iconst (v := 3) hx hb dL_law_1418 kic_3 ?_
  refine lv_iadd hx hb dL_law_1419 ?_
  refine lv_topi (fun y_5 ey_5 => ?_)
  obtain rfl : y_5 = nI (i + 3) := ey_5.trans (nI_add i 3)
  refine va_sld hx hb hX hbl hbA hS (vp_in_nI (by omega) (by omega)) dL_law_1420 ?_
  refine lv_topi (fun y_6 ey_6 => ?_)
  obtain rfl : y_6 = xs (nI (i + 3)).toNatClampNeg := ey_6
  refine vp_callSl (runV_rxa (As := [.int (xs (nI (i + 1)).toNatClampNeg), .int (xs (nI (i + 2)).toNatClampNeg), .int (xs (nI (i + 3)).toNatClampNeg)]) (rest := []) S (q_Xcheat l D cI cB cZ zz qq vv bt g ad cn In Fn (xs (nI (i + 1)).toNatClampNeg) (xs (nI (i + 2)).toNatClampNeg) (xs (nI (i + 3)).toNatClampNeg) hI.1) kV_RL_156 hK hXS hS (exP hP) 0 xo_0 rfl rfl ⟨Nat.le_of_ble_eq_true rfl, Nat.le_of_ble_eq_true rfl⟩ ⟨(by show K + 0 ≤ 600000; omega), (by show N + 0 ≤ 7302250; omega)⟩ rfl hl.1 rfl (Nat.le_of_ble_eq_true rfl) dL_law_1421) (fun r6 w6 => ?_)
  refine lv_pop2_2 hx hb dL_law_1424 rfl ?_
  refine lv_aload_n hx hb dL_law_1425 rfl (lvA2 hl) ?_
  refine lv_aload_n hx hb dL_law_1426 rfl (lvA0 hl) ?_
  refine lv_iload_n hx hb dL_law_1427 rfl (lvA3 hl) ?_
  refine lv_iconst (v := 1) hx hb dL_law_1428 kic_1 ?_
  refine lv_iadd hx hb dL_law_1429 ?_
  refine lv_topi (fun y_8 ey_8 => ?_)
  obtain rfl : y_8 = nI (i + 1) := ey_8.trans (nI_add i 1)
  refine va_sld hx hb hX hbl hbA hS (vp_in_nI (by omega) (by omega)) dL_law_1430 ?_
  refine lv_topi (fun y_9 ey_9 => ?_)
  obtain rfl : y_9 = xs (nI (i + 1)).toNatClampNeg := ey_9
  refine lv_aload_n hx hb dL_law_1431 rfl (lvA0 hl) ?_
  refine lv_iload_n hx hb dL_law_1432 rfl (lvA3 hl) ?_
  refine lv_iconst (v := 2) hx hb dL_law_1433 kic_2 ?_
  refine lv_iadd hx hb dL_law_1434 ?_
  refine lv_topi (fun y_10 ey_10 => ?_)
  obtain rfl : y_10 = nI (i + 2) := ey_10.trans (nI_add i 2)
  refine va_sld hx hb hX hbl hbA hS (vp_in_nI (by omega) (by omega)) dL_law_1435 ?_
  refine lv_topi (fun y_11 ey_11 => ?_)
  obtain rfl : y_11 = xs (nI (i + 2)).toNatClampNeg := ey_11
  refine lv_aload_n hx hb dL_law_1436 rfl (lvA0 hl) ?_
  refine lv_iload_n hx hb dL_law_1437 rfl (lvA3 hl) ?_
  refine lv_iconst (v := 3) hx hb dL_law_1438 kic_3 ?_
  refine lv_iadd hx hb dL_law_1439 ?_
  refine lv_topi (fun y_12 ey_12 => ?_)
  obtain rfl : y_12 = nI (i + 3) := ey_12.trans (nI_add i 3)
  refine va_sld hx hb hX hbl hbA hS (vp_in_nI (by omega) (by omega)) dL_law_1440 ?_
  refine lv_topi (fun y_13 ey_13 => ?_)
  obtain rfl : y_13 = xs (nI (i + 3)).toNatClampNeg := ey_13
  refine vp_callSl (runV_ra (As := [.int (xs (nI (i + 1)).toNatClampNeg), .int (xs (nI (i + 2)).toNatClampNeg), .int (xs (nI (i + 3)).toNatClampNeg)]) (rest := []) S (q_cheat l D cI cB cZ g2 c3 I3 F3 (xs (nI (i + 1)).toNatClampNeg) (xs (nI (i + 2)).toNatClampNeg) (xs (nI (i + 3)).toNatClampNeg) hM.1) kV_RL_160 hK (exPr hP) 0 rfl rfl rfl ⟨Nat.le_of_ble_eq_true rfl, Nat.le_of_ble_eq_true rfl⟩ ⟨(by show K + 0 ≤ 600000; omega), (by show N + 0 ≤ 7302250; omega)⟩ rfl hl.1 rfl (Nat.le_of_ble_eq_true rfl) dL_law_1441) (fun r13 w13 => ?_)
  refine lv_pop2_2 hx hb dL_law_1444 rfl ?_
  refine lv_goto (tgt := 2269) hx hb dL_law_1445 rfl ?_
  refine W.widen (k := K + 8) (n := N + 240) (by omega) (by omega) ?_
  exact kk _ _ _ _ _ _ _ _ _ hI hM hR hP hD hS ls hl
set_option maxRecDepth 100000 in
set_option maxHeartbeats 4000000 in
theorem lawc_34 {p : Program} {l : Launch} {e : Env} {s : State} {m : MethodId} {below : List Frame} {meth : Method} {c : Code} {b L : Nat} {xs : Nat → Int32} (C0 : lw_At p s m meth c b L xs) (hLN : L ≤ 3584) {A : Nat → Prop} (hA : ∀ q : Nat, s.heap.size ≤ q → A q) (hbA : ¬ A b) {D : va_G} {cI cB cZ : ClassId} {zz qq vv : Nat} {bt : Nat → Int32} {g g2 : Nat → Nat} (hK : KK D cI cB cZ s) (hXS : XS D zz qq vv bt A s s.heap) {ad : Nat → Nat → Nat} {cn : Nat → Nat} {In : Nat → Int32} {Fn : Nat → Nat → Int32} {c3 : Nat → Nat} {I3 : Nat → Int32} {F3 : Nat → Nat → Int32} (hI : IX ad cn Fn) (hM : IMM c3 F3) (hR : RR cn Fn c3 F3) {H : Heap} {locs : List Loc} (hP : va_P D vwCl (wX cI (D.1 99) zz g ad cn In Fn ++ wM cI cB cZ g2 c3 I3 F3) H) (hD : va_D A (wX cI (D.1 99) zz g ad cn In Fn ++ wM cI cB cZ g2 c3 I3 F3)) (hS : va_S A s.heap H locs) {K N i : Nat} (hi : i + 7 ≤ L) (hKN : K + 8 ≤ 600000 ∧ N + 240 ≤ 7302250) {ls : Array Slot} (hl : lv_has ls 4 [(0, .ref b), (1, .ref (g 0)), (2, .ref (g2 100)), (3, .int (nI i))]) (kk : ∀ (ad : Nat → Nat → Nat) (cn : Nat → Nat) (In : Nat → Int32) (Fn : Nat → Nat → Int32) (c3 : Nat → Nat) (I3 : Nat → Int32) (F3 : Nat → Nat → Int32) (H : Heap) (locs : List Loc), IX ad cn Fn → IMM c3 F3 → RR cn Fn c3 F3 → va_P D vwCl (wX cI (D.1 99) zz g ad cn In Fn ++ wM cI cB cZ g2 c3 I3 F3) H → va_D A (wX cI (D.1 99) zz g ad cn In Fn ++ wM cI cB cZ g2 c3 I3 F3) → va_S A s.heap H locs → ∀ ls : Array Slot, lv_has ls 4 [(0, .ref b), (1, .ref (g 0)), (2, .ref (g2 100)), (3, .int (nI i))] → W p l e room_1 s m #[Value.ref b] below meth c H locs (K + 8) (N + 240) (lw_Z below #[Value.ref b] s) (F0 m 2269 ls [])) : W p l e room_1 s m #[Value.ref b] below meth c H locs K N (lw_Z below #[Value.ref b] s) (F0 m 1448 ls []) := by
  obtain ⟨hx, hb, hr, hml, hown, hts, hX, hbl, hlocks, hgv⟩ := id C0
  have S : SF p m c code 4 s #[Value.ref b] RL := ⟨hx, hb, hml, hown, fun w h => hts w (wT_lw h)⟩
  refine lv_aload_n hx hb dL_law_1448 rfl (lvA1 hl) ?_
  refine lv_aload_n hx hb dL_law_1449 rfl (lvA0 hl) ?_
  refine lv_iload_n hx hb dL_law_1450 rfl (lvA3 hl) ?_
  refine lv_iconst (v := 1) hx hb dL_law_1451 kic_1 ?_
  refine lv_iadd hx hb dL_law_1452 ?_
  refine lv_topi (fun y_1 ey_1 => ?_)
  obtain rfl : y_1 = nI (i + 1) := ey_1.trans (nI_add i 1)
  refine va_sld hx hb hX hbl hbA hS (vp_in_nI (by omega) (by omega)) dL_law_1453 ?_
  refine lv_topi (fun y_2 ey_2 => ?_)
  obtain rfl : y_2 = xs (nI (i + 1)).toNatClampNeg := ey_2
  refine lv_aload_n hx hb dL_law_1454 rfl (lvA0 hl) ?_
  refine lv_iload_n hx hb dL_law_1455 rfl (lvA3 hl) ?_
  refine lv_iconst (v := 2) hx hb dL_law_1456 kic_2 ?_
  refine lv_iadd hx hb dL_law_1457 ?_
  refine lv_topi (fun y_3 ey_3 => ?_)
  obtain rfl : y_3 = nI (i + 2) := ey_3.trans (nI_add i 2)
  refine va_sld hx hb hX hbl hbA hS (vp_in_nI (by omega) (by omega)) dL_law_1458 ?_
  refine lv_topi (fun y_4 ey_4 => ?_)
  obtain rfl : y_4 = xs (nI (i + 2)).toNatClampNeg := ey_4
  have hFc := free_all (exD hD) hS hA
  refine va_calli (runV_xa (As := [.int (xs (nI (i + 1)).toNatClampNeg), .int (xs (nI (i + 2)).toNatClampNeg)]) (rest := []) S (q_XasIf l D cI cB cZ zz qq vv bt g ad cn In Fn (xs (nI (i + 1)).toNatClampNeg) (xs (nI (i + 2)).toNatClampNeg) H.size hI.1 hI.2.1 hI.2.2.1) kV_RL_161 hK hXS hS hFc (exP hP) (exD hD) 0 xo_0 rfl rfl ⟨Nat.le_of_ble_eq_true rfl, Nat.le_of_ble_eq_true rfl⟩ ⟨(by show K + 0 ≤ 600000; omega), (by show N + 0 ≤ 7302250; omega)⟩ rfl hl.1 rfl (Nat.le_of_ble_eq_true rfl) dL_law_1459) hS (fun q _ h => hFc q h) hFc (fun r4 u t H1 locs ht hvm w4 hB1 hz1 hk1 hS => ?_)
  obtain ⟨c4, I4, F4⟩ := u
  obtain ⟨hP1, hD1⟩ := hB1
  rw [ht] at hP1
  obtain ⟨hP, hD⟩ := exjoinL hP hD hk1 hFc hP1 hD1
  generalize H1 = H at hP hS ⊢
  have hd4 := w4.1.1
  have hf4 := w4.1.2.2
  have hI := IX.fr hI w4.1 w4.2.1 (by decide) (by decide)
  have hR := RR.fx hR hd4 hf4 (by decide) (by decide)
  refine lv_pop hx hb dL_law_1462 rfl ?_
  refine lv_aload_n hx hb dL_law_1463 rfl (lvA2 hl) ?_
  refine lv_aload_n hx hb dL_law_1464 rfl (lvA0 hl) ?_
  refine lv_iload_n hx hb dL_law_1465 rfl (lvA3 hl) ?_
  refine lv_iconst (v := 1) hx hb dL_law_1466 kic_1 ?_
  refine lv_iadd hx hb dL_law_1467 ?_
  refine lv_topi (fun y_6 ey_6 => ?_)
  obtain rfl : y_6 = nI (i + 1) := ey_6.trans (nI_add i 1)
  refine va_sld hx hb hX hbl hbA hS (vp_in_nI (by omega) (by omega)) dL_law_1468 ?_
  refine lv_topi (fun y_7 ey_7 => ?_)
  obtain rfl : y_7 = xs (nI (i + 1)).toNatClampNeg := ey_7
  refine lv_aload_n hx hb dL_law_1469 rfl (lvA0 hl) ?_
  refine lv_iload_n hx hb dL_law_1470 rfl (lvA3 hl) ?_
  refine lv_iconst (v := 2) hx hb dL_law_1471 kic_2 ?_
  refine lv_iadd hx hb dL_law_1472 ?_
  refine lv_topi (fun y_8 ey_8 => ?_)
  obtain rfl : y_8 = nI (i + 2) := ey_8.trans (nI_add i 2)
  refine va_sld hx hb hX hbl hbA hS (vp_in_nI (by omega) (by omega)) dL_law_1473 ?_
  refine lv_topi (fun y_9 ey_9 => ?_)
  obtain rfl : y_9 = xs (nI (i + 2)).toNatClampNeg := ey_9
  have hFc := free_all (exDr hD) hS hA
  refine va_calli (runV_a (As := [.int (xs (nI (i + 1)).toNatClampNeg), .int (xs (nI (i + 2)).toNatClampNeg)]) (rest := []) S (q_asIf l D cI cB cZ g2 c3 I3 F3 (xs (nI (i + 1)).toNatClampNeg) (xs (nI (i + 2)).toNatClampNeg) H.size hM.1) kV_RL_164 hK (exPr hP) (exDr hD) 0 rfl rfl rfl ⟨Nat.le_of_ble_eq_true rfl, Nat.le_of_ble_eq_true rfl⟩ ⟨(by show K + 0 ≤ 600000; omega), (by show N + 0 ≤ 7302250; omega)⟩ rfl hl.1 rfl (Nat.le_of_ble_eq_true rfl) dL_law_1474) hS (fun q _ h => hFc q h) hFc (fun r9 u t H1 locs ht hvm w9 hB1 hz1 hk1 hS => ?_)
  obtain ⟨c9, I9, F9⟩ := u
  obtain ⟨hP1, hD1⟩ := hB1
  rw [ht] at hP1
  obtain ⟨hP, hD⟩ := exjoin hP hD hk1 hFc hP1 hD1
  generalize H1 = H at hP hS ⊢
  obtain ⟨hM, hd9, hf9⟩ := imm_asIf hM w9
  have hR := RR.fm hR hd9 hf9 (by decide) (by decide)
  refine lv_pop hx hb dL_law_1477 rfl ?_
  refine lv_goto (tgt := 2269) hx hb dL_law_1478 rfl ?_
  refine W.widen (k := K + 8) (n := N + 240) (by omega) (by omega) ?_
  exact kk _ _ _ _ _ _ _ _ _ hI hM hR hP hD hS ls hl
set_option maxRecDepth 100000 in
set_option maxHeartbeats 4000000 in
theorem lawc_35 {p : Program} {l : Launch} {e : Env} {s : State} {m : MethodId} {below : List Frame} {meth : Method} {c : Code} {b L : Nat} {xs : Nat → Int32} (C0 : lw_At p s m meth c b L xs) (hLN : L ≤ 3584) {A : Nat → Prop} (hA : ∀ q : Nat, s.heap.size ≤ q → A q) (hbA : ¬ A b) {D : va_G} {cI cB cZ : ClassId} {zz qq vv : Nat} {bt : Nat → Int32} {g g2 : Nat → Nat} (hK : KK D cI cB cZ s) (hXS : XS D zz qq vv bt A s s.heap) {ad : Nat → Nat → Nat} {cn : Nat → Nat} {In : Nat → Int32} {Fn : Nat → Nat → Int32} {c3 : Nat → Nat} {I3 : Nat → Int32} {F3 : Nat → Nat → Int32} (hI : IX ad cn Fn) (hM : IMM c3 F3) (hR : RR cn Fn c3 F3) {H : Heap} {locs : List Loc} (hP : va_P D vwCl (wX cI (D.1 99) zz g ad cn In Fn ++ wM cI cB cZ g2 c3 I3 F3) H) (hD : va_D A (wX cI (D.1 99) zz g ad cn In Fn ++ wM cI cB cZ g2 c3 I3 F3)) (hS : va_S A s.heap H locs) {K N i : Nat} (hi : i + 7 ≤ L) (hKN : K + 8 ≤ 600000 ∧ N + 240 ≤ 7302250) {ls : Array Slot} (hl : lv_has ls 4 [(0, .ref b), (1, .ref (g 0)), (2, .ref (g2 100)), (3, .int (nI i))]) (kk : ∀ (ad : Nat → Nat → Nat) (cn : Nat → Nat) (In : Nat → Int32) (Fn : Nat → Nat → Int32) (c3 : Nat → Nat) (I3 : Nat → Int32) (F3 : Nat → Nat → Int32) (H : Heap) (locs : List Loc), IX ad cn Fn → IMM c3 F3 → RR cn Fn c3 F3 → va_P D vwCl (wX cI (D.1 99) zz g ad cn In Fn ++ wM cI cB cZ g2 c3 I3 F3) H → va_D A (wX cI (D.1 99) zz g ad cn In Fn ++ wM cI cB cZ g2 c3 I3 F3) → va_S A s.heap H locs → ∀ ls : Array Slot, lv_has ls 4 [(0, .ref b), (1, .ref (g 0)), (2, .ref (g2 100)), (3, .int (nI i))] → W p l e room_1 s m #[Value.ref b] below meth c H locs (K + 8) (N + 240) (lw_Z below #[Value.ref b] s) (F0 m 2269 ls [])) : W p l e room_1 s m #[Value.ref b] below meth c H locs K N (lw_Z below #[Value.ref b] s) (F0 m 1481 ls []) := by
  obtain ⟨hx, hb, hr, hml, hown, hts, hX, hbl, hlocks, hgv⟩ := id C0
  have S : SF p m c code 4 s #[Value.ref b] RL := ⟨hx, hb, hml, hown, fun w h => hts w (wT_lw h)⟩
  refine lv_aload_n hx hb dL_law_1481 rfl (lvA1 hl) ?_
  refine lv_aload_n hx hb dL_law_1482 rfl (lvA0 hl) ?_
  refine lv_iload_n hx hb dL_law_1483 rfl (lvA3 hl) ?_
  refine lv_iconst (v := 1) hx hb dL_law_1484 kic_1 ?_
  refine lv_iadd hx hb dL_law_1485 ?_
  refine lv_topi (fun y_1 ey_1 => ?_)
  obtain rfl : y_1 = nI (i + 1) := ey_1.trans (nI_add i 1)
  refine va_sld hx hb hX hbl hbA hS (vp_in_nI (by omega) (by omega)) dL_law_1486 ?_
  refine lv_topi (fun y_2 ey_2 => ?_)
  obtain rfl : y_2 = xs (nI (i + 1)).toNatClampNeg := ey_2
  have hFc := free_all (exD hD) hS hA
  refine va_calli (runV_xa (As := [.int (xs (nI (i + 1)).toNatClampNeg)]) (rest := []) S (q_Xlorry l D cI cB cZ zz qq vv bt g ad cn In Fn (xs (nI (i + 1)).toNatClampNeg) H.size hI.1) kV_RL_165 hK hXS hS hFc (exP hP) (exD hD) 0 xo_0 rfl rfl ⟨Nat.le_of_ble_eq_true rfl, Nat.le_of_ble_eq_true rfl⟩ ⟨(by show K + 0 ≤ 600000; omega), (by show N + 0 ≤ 7302250; omega)⟩ rfl hl.1 rfl (Nat.le_of_ble_eq_true rfl) dL_law_1487) hS (fun q _ h => hFc q h) hFc (fun r2 u t H1 locs ht hvm w2 hB1 hz1 hk1 hS => ?_)
  obtain ⟨c2, I2, F2⟩ := u
  obtain ⟨hP1, hD1⟩ := hB1
  rw [ht] at hP1
  obtain ⟨hP, hD⟩ := exjoinL hP hD hk1 hFc hP1 hD1
  generalize H1 = H at hP hS ⊢
  have hd2 := w2.1.1
  have hf2 := w2.1.2.2
  have hI := IX.fr hI w2.1 w2.2.1 (by decide) (by decide)
  have hR := RR.fx hR hd2 hf2 (by decide) (by decide)
  refine lv_pop hx hb dL_law_1490 rfl ?_
  refine lv_aload_n hx hb dL_law_1491 rfl (lvA2 hl) ?_
  refine lv_aload_n hx hb dL_law_1492 rfl (lvA0 hl) ?_
  refine lv_iload_n hx hb dL_law_1493 rfl (lvA3 hl) ?_
  refine lv_iconst (v := 1) hx hb dL_law_1494 kic_1 ?_
  refine lv_iadd hx hb dL_law_1495 ?_
  refine lv_topi (fun y_4 ey_4 => ?_)
  obtain rfl : y_4 = nI (i + 1) := ey_4.trans (nI_add i 1)
  refine va_sld hx hb hX hbl hbA hS (vp_in_nI (by omega) (by omega)) dL_law_1496 ?_
  refine lv_topi (fun y_5 ey_5 => ?_)
  obtain rfl : y_5 = xs (nI (i + 1)).toNatClampNeg := ey_5
  have hFc := free_all (exDr hD) hS hA
  refine va_calli (runV_a (As := [.int (xs (nI (i + 1)).toNatClampNeg)]) (rest := []) S (q_lorry l D cI cB cZ g2 c3 I3 F3 (xs (nI (i + 1)).toNatClampNeg) H.size hM.1) kV_RL_168 hK (exPr hP) (exDr hD) 0 rfl rfl rfl ⟨Nat.le_of_ble_eq_true rfl, Nat.le_of_ble_eq_true rfl⟩ ⟨(by show K + 0 ≤ 600000; omega), (by show N + 0 ≤ 7302250; omega)⟩ rfl hl.1 rfl (Nat.le_of_ble_eq_true rfl) dL_law_1497) hS (fun q _ h => hFc q h) hFc (fun r5 u t H1 locs ht hvm w5 hB1 hz1 hk1 hS => ?_)
  obtain ⟨c5, I5, F5⟩ := u
  obtain ⟨hP1, hD1⟩ := hB1
  rw [ht] at hP1
  obtain ⟨hP, hD⟩ := exjoin hP hD hk1 hFc hP1 hD1
  generalize H1 = H at hP hS ⊢
  obtain ⟨hM, hd5, hf5⟩ := imm_lorry hM w5
  have hR := RR.fm hR hd5 hf5 (by decide) (by decide)
  refine lv_pop hx hb dL_law_1500 rfl ?_
  refine lv_goto (tgt := 2269) hx hb dL_law_1501 rfl ?_
  refine W.widen (k := K + 8) (n := N + 240) (by omega) (by omega) ?_
  exact kk _ _ _ _ _ _ _ _ _ hI hM hR hP hD hS ls hl
set_option maxRecDepth 100000 in
set_option maxHeartbeats 4000000 in
theorem lawc_36 {p : Program} {l : Launch} {e : Env} {s : State} {m : MethodId} {below : List Frame} {meth : Method} {c : Code} {b L : Nat} {xs : Nat → Int32} (C0 : lw_At p s m meth c b L xs) (hLN : L ≤ 3584) {A : Nat → Prop} (hA : ∀ q : Nat, s.heap.size ≤ q → A q) (hbA : ¬ A b) {D : va_G} {cI cB cZ : ClassId} {zz qq vv : Nat} {bt : Nat → Int32} {g g2 : Nat → Nat} (hK : KK D cI cB cZ s) (hXS : XS D zz qq vv bt A s s.heap) {ad : Nat → Nat → Nat} {cn : Nat → Nat} {In : Nat → Int32} {Fn : Nat → Nat → Int32} {c3 : Nat → Nat} {I3 : Nat → Int32} {F3 : Nat → Nat → Int32} (hI : IX ad cn Fn) (hM : IMM c3 F3) (hR : RR cn Fn c3 F3) {H : Heap} {locs : List Loc} (hP : va_P D vwCl (wX cI (D.1 99) zz g ad cn In Fn ++ wM cI cB cZ g2 c3 I3 F3) H) (hD : va_D A (wX cI (D.1 99) zz g ad cn In Fn ++ wM cI cB cZ g2 c3 I3 F3)) (hS : va_S A s.heap H locs) {K N i : Nat} (hi : i + 7 ≤ L) (hKN : K + 8 ≤ 600000 ∧ N + 240 ≤ 7302250) {ls : Array Slot} (hl : lv_has ls 4 [(0, .ref b), (1, .ref (g 0)), (2, .ref (g2 100)), (3, .int (nI i))]) (kk : ∀ (ad : Nat → Nat → Nat) (cn : Nat → Nat) (In : Nat → Int32) (Fn : Nat → Nat → Int32) (c3 : Nat → Nat) (I3 : Nat → Int32) (F3 : Nat → Nat → Int32) (H : Heap) (locs : List Loc), IX ad cn Fn → IMM c3 F3 → RR cn Fn c3 F3 → va_P D vwCl (wX cI (D.1 99) zz g ad cn In Fn ++ wM cI cB cZ g2 c3 I3 F3) H → va_D A (wX cI (D.1 99) zz g ad cn In Fn ++ wM cI cB cZ g2 c3 I3 F3) → va_S A s.heap H locs → ∀ ls : Array Slot, lv_has ls 4 [(0, .ref b), (1, .ref (g 0)), (2, .ref (g2 100)), (3, .int (nI i))] → W p l e room_1 s m #[Value.ref b] below meth c H locs (K + 8) (N + 240) (lw_Z below #[Value.ref b] s) (F0 m 2269 ls [])) : W p l e room_1 s m #[Value.ref b] below meth c H locs K N (lw_Z below #[Value.ref b] s) (F0 m 1504 ls []) := by
  obtain ⟨hx, hb, hr, hml, hown, hts, hX, hbl, hlocks, hgv⟩ := id C0
  have S : SF p m c code 4 s #[Value.ref b] RL := ⟨hx, hb, hml, hown, fun w h => hts w (wT_lw h)⟩
  refine lv_aload_n hx hb dL_law_1504 rfl (lvA1 hl) ?_
  refine lv_aload_n hx hb dL_law_1505 rfl (lvA0 hl) ?_
  refine lv_iload_n hx hb dL_law_1506 rfl (lvA3 hl) ?_
  refine lv_iconst (v := 1) hx hb dL_law_1507 kic_1 ?_
  refine lv_iadd hx hb dL_law_1508 ?_
  refine lv_topi (fun y_1 ey_1 => ?_)
  obtain rfl : y_1 = nI (i + 1) := ey_1.trans (nI_add i 1)
  refine va_sld hx hb hX hbl hbA hS (vp_in_nI (by omega) (by omega)) dL_law_1509 ?_
  refine lv_topi (fun y_2 ey_2 => ?_)
  obtain rfl : y_2 = xs (nI (i + 1)).toNatClampNeg := ey_2
  refine lv_aload_n hx hb dL_law_1510 rfl (lvA0 hl) ?_
  refine lv_iload_n hx hb dL_law_1511 rfl (lvA3 hl) ?_
  refine lv_iconst (v := 2) hx hb dL_law_1512 kic_2 ?_
  refine lv_iadd hx hb dL_law_1513 ?_
  refine lv_topi (fun y_3 ey_3 => ?_)
  obtain rfl : y_3 = nI (i + 2) := ey_3.trans (nI_add i 2)
  refine va_sld hx hb hX hbl hbA hS (vp_in_nI (by omega) (by omega)) dL_law_1514 ?_
  refine lv_topi (fun y_4 ey_4 => ?_)
  obtain rfl : y_4 = xs (nI (i + 2)).toNatClampNeg := ey_4
  refine lv_aload_n hx hb dL_law_1515 rfl (lvA0 hl) ?_
  refine lv_iload_n hx hb dL_law_1516 rfl (lvA3 hl) ?_
  refine lv_iconst (v := 3) hx hb dL_law_1517 kic_3 ?_
  refine lv_iadd hx hb dL_law_1518 ?_
  refine lv_topi (fun y_5 ey_5 => ?_)
  obtain rfl : y_5 = nI (i + 3) := ey_5.trans (nI_add i 3)
  refine va_sld hx hb hX hbl hbA hS (vp_in_nI (by omega) (by omega)) dL_law_1519 ?_
  refine lv_topi (fun y_6 ey_6 => ?_)
  obtain rfl : y_6 = xs (nI (i + 3)).toNatClampNeg := ey_6
  refine lv_if_eq (tgt := 1527) hx hb dL_law_1520 rfl (fun c_7 => ?_) (fun c_7 => ?_)
  ·
    have tc_7 : ((xs (nI (i + 3)).toNatClampNeg).toInt : Int) = 0 := congrArg Int32.toInt c_7
    refine lv_iconst (v := 0) hx hb dL_law_1527 kic_0 ?_
    have hFc := free_all (exD hD) hS hA
    refine va_calli (runV_xa (As := [.int (xs (nI (i + 1)).toNatClampNeg), .int (xs (nI (i + 2)).toNatClampNeg), .int 0]) (rest := []) S (q_Xoff l D cI cB cZ zz qq vv bt g ad cn In Fn (xs (nI (i + 1)).toNatClampNeg) (xs (nI (i + 2)).toNatClampNeg) 0 H.size hI.1) kV_RL_169 hK hXS hS hFc (exP hP) (exD hD) 0 xo_0 rfl rfl ⟨Nat.le_of_ble_eq_true rfl, Nat.le_of_ble_eq_true rfl⟩ ⟨(by show K + 0 ≤ 600000; omega), (by show N + 0 ≤ 7302250; omega)⟩ rfl hl.1 rfl (Nat.le_of_ble_eq_true rfl) dL_law_1528) hS (fun q _ h => hFc q h) hFc (fun r7 u t H1 locs ht hvm w7 hB1 hz1 hk1 hS => ?_)
    obtain ⟨c7, I7, F7⟩ := u
    obtain ⟨hP1, hD1⟩ := hB1
    rw [ht] at hP1
    obtain ⟨hP, hD⟩ := exjoinL hP hD hk1 hFc hP1 hD1
    generalize H1 = H at hP hS ⊢
    have hd7 := w7.1.1
    have hf7 := w7.1.2.2
    have hI := IX.fr hI w7.1 w7.2.1 (by decide) (by decide)
    have hR := RR.fx hR hd7 hf7 (by decide) (by decide)
    refine lv_pop hx hb dL_law_1531 rfl ?_
    refine lv_aload_n hx hb dL_law_1532 rfl (lvA2 hl) ?_
    refine lv_aload_n hx hb dL_law_1533 rfl (lvA0 hl) ?_
    refine lv_iload_n hx hb dL_law_1534 rfl (lvA3 hl) ?_
    refine lv_iconst (v := 1) hx hb dL_law_1535 kic_1 ?_
    refine lv_iadd hx hb dL_law_1536 ?_
    refine lv_topi (fun y_9 ey_9 => ?_)
    obtain rfl : y_9 = nI (i + 1) := ey_9.trans (nI_add i 1)
    refine va_sld hx hb hX hbl hbA hS (vp_in_nI (by omega) (by omega)) dL_law_1537 ?_
    refine lv_topi (fun y_10 ey_10 => ?_)
    obtain rfl : y_10 = xs (nI (i + 1)).toNatClampNeg := ey_10
    refine lv_aload_n hx hb dL_law_1538 rfl (lvA0 hl) ?_
    refine lv_iload_n hx hb dL_law_1539 rfl (lvA3 hl) ?_
    refine lv_iconst (v := 2) hx hb dL_law_1540 kic_2 ?_
    refine lv_iadd hx hb dL_law_1541 ?_
    refine lv_topi (fun y_11 ey_11 => ?_)
    obtain rfl : y_11 = nI (i + 2) := ey_11.trans (nI_add i 2)
    refine va_sld hx hb hX hbl hbA hS (vp_in_nI (by omega) (by omega)) dL_law_1542 ?_
    refine lv_topi (fun y_12 ey_12 => ?_)
    obtain rfl : y_12 = xs (nI (i + 2)).toNatClampNeg := ey_12
    refine lv_aload_n hx hb dL_law_1543 rfl (lvA0 hl) ?_
    refine lv_iload_n hx hb dL_law_1544 rfl (lvA3 hl) ?_
    refine lv_iconst (v := 3) hx hb dL_law_1545 kic_3 ?_
    refine lv_iadd hx hb dL_law_1546 ?_
    refine lv_topi (fun y_13 ey_13 => ?_)
    obtain rfl : y_13 = nI (i + 3) := ey_13.trans (nI_add i 3)
    refine va_sld hx hb hX hbl hbA hS (vp_in_nI (by omega) (by omega)) dL_law_1547 ?_
    refine lv_topi (fun y_14 ey_14 => ?_)
    obtain rfl : y_14 = xs (nI (i + 3)).toNatClampNeg := ey_14
    refine lv_if_eq (tgt := 1555) hx hb dL_law_1548 rfl (fun c_15 => ?_) (fun c_15 => False.elim (by have tc_15 : ((xs (nI (i + 3)).toNatClampNeg).toInt : Int) ≠ 0 := fun q => c_15 (Int32.toInt_inj.mp q); omega))
    have tc_15 : ((xs (nI (i + 3)).toNatClampNeg).toInt : Int) = 0 := congrArg Int32.toInt c_15
    refine lv_iconst (v := 0) hx hb dL_law_1555 kic_0 ?_
    have hFc := free_all (exDr hD) hS hA
    refine va_calli (runV_a (As := [.int (xs (nI (i + 1)).toNatClampNeg), .int (xs (nI (i + 2)).toNatClampNeg), .int 0]) (rest := []) S (q_off l D cI cB cZ g2 c3 I3 F3 (xs (nI (i + 1)).toNatClampNeg) (xs (nI (i + 2)).toNatClampNeg) 0 H.size hM.1) kV_RL_173 hK (exPr hP) (exDr hD) 0 rfl rfl rfl ⟨Nat.le_of_ble_eq_true rfl, Nat.le_of_ble_eq_true rfl⟩ ⟨(by show K + 0 ≤ 600000; omega), (by show N + 0 ≤ 7302250; omega)⟩ rfl hl.1 rfl (Nat.le_of_ble_eq_true rfl) dL_law_1556) hS (fun q _ h => hFc q h) hFc (fun r15 u t H1 locs ht hvm w15 hB1 hz1 hk1 hS => ?_)
    obtain ⟨c15, I15, F15⟩ := u
    obtain ⟨hP1, hD1⟩ := hB1
    rw [ht] at hP1
    obtain ⟨hP, hD⟩ := exjoin hP hD hk1 hFc hP1 hD1
    generalize H1 = H at hP hS ⊢
    obtain ⟨hM, hd15, hf15⟩ := imm_off hM w15
    have hR := RR.fm hR hd15 hf15 (by decide) (by decide)
    refine lv_pop hx hb dL_law_1559 rfl ?_
    refine lv_goto (tgt := 2269) hx hb dL_law_1560 rfl ?_
    refine W.widen (k := K + 8) (n := N + 240) (by omega) (by omega) ?_
    exact kk _ _ _ _ _ _ _ _ _ hI hM hR hP hD hS ls hl
  ·
    have tc_7 : ((xs (nI (i + 3)).toNatClampNeg).toInt : Int) ≠ 0 := fun q => c_7 (Int32.toInt_inj.mp q)
    refine lv_iconst (v := 1) hx hb dL_law_1523 kic_1 ?_
    refine lv_goto (tgt := 1528) hx hb dL_law_1524 rfl ?_
    have hFc := free_all (exD hD) hS hA
    refine va_calli (runV_xa (As := [.int (xs (nI (i + 1)).toNatClampNeg), .int (xs (nI (i + 2)).toNatClampNeg), .int 1]) (rest := []) S (q_Xoff l D cI cB cZ zz qq vv bt g ad cn In Fn (xs (nI (i + 1)).toNatClampNeg) (xs (nI (i + 2)).toNatClampNeg) 1 H.size hI.1) kV_RL_169 hK hXS hS hFc (exP hP) (exD hD) 0 xo_0 rfl rfl ⟨Nat.le_of_ble_eq_true rfl, Nat.le_of_ble_eq_true rfl⟩ ⟨(by show K + 0 ≤ 600000; omega), (by show N + 0 ≤ 7302250; omega)⟩ rfl hl.1 rfl (Nat.le_of_ble_eq_true rfl) dL_law_1528) hS (fun q _ h => hFc q h) hFc (fun r16 u t H1 locs ht hvm w16 hB1 hz1 hk1 hS => ?_)
    obtain ⟨c16, I16, F16⟩ := u
    obtain ⟨hP1, hD1⟩ := hB1
    rw [ht] at hP1
    obtain ⟨hP, hD⟩ := exjoinL hP hD hk1 hFc hP1 hD1
    generalize H1 = H at hP hS ⊢
    have hd16 := w16.1.1
    have hf16 := w16.1.2.2
    have hI := IX.fr hI w16.1 w16.2.1 (by decide) (by decide)
    have hR := RR.fx hR hd16 hf16 (by decide) (by decide)
    refine lv_pop hx hb dL_law_1531 rfl ?_
    refine lv_aload_n hx hb dL_law_1532 rfl (lvA2 hl) ?_
    refine lv_aload_n hx hb dL_law_1533 rfl (lvA0 hl) ?_
    refine lv_iload_n hx hb dL_law_1534 rfl (lvA3 hl) ?_
    refine lv_iconst (v := 1) hx hb dL_law_1535 kic_1 ?_
    refine lv_iadd hx hb dL_law_1536 ?_
    refine lv_topi (fun y_18 ey_18 => ?_)
    obtain rfl : y_18 = nI (i + 1) := ey_18.trans (nI_add i 1)
    refine va_sld hx hb hX hbl hbA hS (vp_in_nI (by omega) (by omega)) dL_law_1537 ?_
    refine lv_topi (fun y_19 ey_19 => ?_)
    obtain rfl : y_19 = xs (nI (i + 1)).toNatClampNeg := ey_19
    refine lv_aload_n hx hb dL_law_1538 rfl (lvA0 hl) ?_
    refine lv_iload_n hx hb dL_law_1539 rfl (lvA3 hl) ?_
    refine lv_iconst (v := 2) hx hb dL_law_1540 kic_2 ?_
    refine lv_iadd hx hb dL_law_1541 ?_
    refine lv_topi (fun y_20 ey_20 => ?_)
    obtain rfl : y_20 = nI (i + 2) := ey_20.trans (nI_add i 2)
    refine va_sld hx hb hX hbl hbA hS (vp_in_nI (by omega) (by omega)) dL_law_1542 ?_
    refine lv_topi (fun y_21 ey_21 => ?_)
    obtain rfl : y_21 = xs (nI (i + 2)).toNatClampNeg := ey_21
    refine lv_aload_n hx hb dL_law_1543 rfl (lvA0 hl) ?_
    refine lv_iload_n hx hb dL_law_1544 rfl (lvA3 hl) ?_
    refine lv_iconst (v := 3) hx hb dL_law_1545 kic_3 ?_
    refine lv_iadd hx hb dL_law_1546 ?_
    refine lv_topi (fun y_22 ey_22 => ?_)
    obtain rfl : y_22 = nI (i + 3) := ey_22.trans (nI_add i 3)
    refine va_sld hx hb hX hbl hbA hS (vp_in_nI (by omega) (by omega)) dL_law_1547 ?_
    refine lv_topi (fun y_23 ey_23 => ?_)
    obtain rfl : y_23 = xs (nI (i + 3)).toNatClampNeg := ey_23
    refine lv_if_eq (tgt := 1555) hx hb dL_law_1548 rfl (fun c_24 => False.elim (by have tc_24 : ((xs (nI (i + 3)).toNatClampNeg).toInt : Int) = 0 := congrArg Int32.toInt c_24; omega)) (fun c_24 => ?_)
    have tc_24 : ((xs (nI (i + 3)).toNatClampNeg).toInt : Int) ≠ 0 := fun q => c_24 (Int32.toInt_inj.mp q)
    refine lv_iconst (v := 1) hx hb dL_law_1551 kic_1 ?_
    refine lv_goto (tgt := 1556) hx hb dL_law_1552 rfl ?_
    have hFc := free_all (exDr hD) hS hA
    refine va_calli (runV_a (As := [.int (xs (nI (i + 1)).toNatClampNeg), .int (xs (nI (i + 2)).toNatClampNeg), .int 1]) (rest := []) S (q_off l D cI cB cZ g2 c3 I3 F3 (xs (nI (i + 1)).toNatClampNeg) (xs (nI (i + 2)).toNatClampNeg) 1 H.size hM.1) kV_RL_173 hK (exPr hP) (exDr hD) 0 rfl rfl rfl ⟨Nat.le_of_ble_eq_true rfl, Nat.le_of_ble_eq_true rfl⟩ ⟨(by show K + 0 ≤ 600000; omega), (by show N + 0 ≤ 7302250; omega)⟩ rfl hl.1 rfl (Nat.le_of_ble_eq_true rfl) dL_law_1556) hS (fun q _ h => hFc q h) hFc (fun r24 u t H1 locs ht hvm w24 hB1 hz1 hk1 hS => ?_)
    obtain ⟨c24, I24, F24⟩ := u
    obtain ⟨hP1, hD1⟩ := hB1
    rw [ht] at hP1
    obtain ⟨hP, hD⟩ := exjoin hP hD hk1 hFc hP1 hD1
    generalize H1 = H at hP hS ⊢
    obtain ⟨hM, hd24, hf24⟩ := imm_off hM w24
    have hR := RR.fm hR hd24 hf24 (by decide) (by decide)
    refine lv_pop hx hb dL_law_1559 rfl ?_
    refine lv_goto (tgt := 2269) hx hb dL_law_1560 rfl ?_
    refine W.widen (k := K + 8) (n := N + 240) (by omega) (by omega) ?_
    exact kk _ _ _ _ _ _ _ _ _ hI hM hR hP hD hS ls hl
set_option maxRecDepth 100000 in
set_option maxHeartbeats 4000000 in
theorem lawc_37 {p : Program} {l : Launch} {e : Env} {s : State} {m : MethodId} {below : List Frame} {meth : Method} {c : Code} {b L : Nat} {xs : Nat → Int32} (C0 : lw_At p s m meth c b L xs) (hLN : L ≤ 3584) {A : Nat → Prop} (hA : ∀ q : Nat, s.heap.size ≤ q → A q) (hbA : ¬ A b) {D : va_G} {cI cB cZ : ClassId} {zz qq vv : Nat} {bt : Nat → Int32} {g g2 : Nat → Nat} (hK : KK D cI cB cZ s) (hXS : XS D zz qq vv bt A s s.heap) {ad : Nat → Nat → Nat} {cn : Nat → Nat} {In : Nat → Int32} {Fn : Nat → Nat → Int32} {c3 : Nat → Nat} {I3 : Nat → Int32} {F3 : Nat → Nat → Int32} (hI : IX ad cn Fn) (hM : IMM c3 F3) (hR : RR cn Fn c3 F3) {H : Heap} {locs : List Loc} (hP : va_P D vwCl (wX cI (D.1 99) zz g ad cn In Fn ++ wM cI cB cZ g2 c3 I3 F3) H) (hD : va_D A (wX cI (D.1 99) zz g ad cn In Fn ++ wM cI cB cZ g2 c3 I3 F3)) (hS : va_S A s.heap H locs) {K N i : Nat} (hi : i + 7 ≤ L) (hKN : K + 8 ≤ 600000 ∧ N + 240 ≤ 7302250) {ls : Array Slot} (hl : lv_has ls 4 [(0, .ref b), (1, .ref (g 0)), (2, .ref (g2 100)), (3, .int (nI i))]) (kk : ∀ (ad : Nat → Nat → Nat) (cn : Nat → Nat) (In : Nat → Int32) (Fn : Nat → Nat → Int32) (c3 : Nat → Nat) (I3 : Nat → Int32) (F3 : Nat → Nat → Int32) (H : Heap) (locs : List Loc), IX ad cn Fn → IMM c3 F3 → RR cn Fn c3 F3 → va_P D vwCl (wX cI (D.1 99) zz g ad cn In Fn ++ wM cI cB cZ g2 c3 I3 F3) H → va_D A (wX cI (D.1 99) zz g ad cn In Fn ++ wM cI cB cZ g2 c3 I3 F3) → va_S A s.heap H locs → ∀ ls : Array Slot, lv_has ls 4 [(0, .ref b), (1, .ref (g 0)), (2, .ref (g2 100)), (3, .int (nI i))] → W p l e room_1 s m #[Value.ref b] below meth c H locs (K + 8) (N + 240) (lw_Z below #[Value.ref b] s) (F0 m 2269 ls [])) : W p l e room_1 s m #[Value.ref b] below meth c H locs K N (lw_Z below #[Value.ref b] s) (F0 m 1563 ls []) := by
  obtain ⟨hx, hb, hr, hml, hown, hts, hX, hbl, hlocks, hgv⟩ := id C0
  have S : SF p m c code 4 s #[Value.ref b] RL := ⟨hx, hb, hml, hown, fun w h => hts w (wT_lw h)⟩
  refine lv_aload_n hx hb dL_law_1563 rfl (lvA1 hl) ?_
  refine lv_aload_n hx hb dL_law_1564 rfl (lvA0 hl) ?_
  refine lv_iload_n hx hb dL_law_1565 rfl (lvA3 hl) ?_
  refine lv_iconst (v := 1) hx hb dL_law_1566 kic_1 ?_
  refine lv_iadd hx hb dL_law_1567 ?_
  refine lv_topi (fun y_1 ey_1 => ?_)
  obtain rfl : y_1 = nI (i + 1) := ey_1.trans (nI_add i 1)
  refine va_sld hx hb hX hbl hbA hS (vp_in_nI (by omega) (by omega)) dL_law_1568 ?_
  refine lv_topi (fun y_2 ey_2 => ?_)
  obtain rfl : y_2 = xs (nI (i + 1)).toNatClampNeg := ey_2
  refine lv_aload_n hx hb dL_law_1569 rfl (lvA0 hl) ?_
  refine lv_iload_n hx hb dL_law_1570 rfl (lvA3 hl) ?_
  refine lv_iconst (v := 2) hx hb dL_law_1571 kic_2 ?_
  refine lv_iadd hx hb dL_law_1572 ?_
  refine lv_topi (fun y_3 ey_3 => ?_)
  obtain rfl : y_3 = nI (i + 2) := ey_3.trans (nI_add i 2)
  refine va_sld hx hb hX hbl hbA hS (vp_in_nI (by omega) (by omega)) dL_law_1573 ?_
  refine lv_topi (fun y_4 ey_4 => ?_)
  obtain rfl : y_4 = xs (nI (i + 2)).toNatClampNeg := ey_4
  refine lv_aload_n hx hb dL_law_1574 rfl (lvA0 hl) ?_
  refine lv_iload_n hx hb dL_law_1575 rfl (lvA3 hl) ?_
  refine lv_iconst (v := 3) hx hb dL_law_1576 kic_3 ?_
  refine lv_iadd hx hb dL_law_1577 ?_
  refine lv_topi (fun y_5 ey_5 => ?_)
  obtain rfl : y_5 = nI (i + 3) := ey_5.trans (nI_add i 3)
  refine va_sld hx hb hX hbl hbA hS (vp_in_nI (by omega) (by omega)) dL_law_1578 ?_
  refine lv_topi (fun y_6 ey_6 => ?_)
  obtain rfl : y_6 = xs (nI (i + 3)).toNatClampNeg := ey_6
  have hFc := free_all (exD hD) hS hA
  refine va_calli (runV_xa (As := [.int (xs (nI (i + 1)).toNatClampNeg), .int (xs (nI (i + 2)).toNatClampNeg), .int (xs (nI (i + 3)).toNatClampNeg)]) (rest := []) S (q_Xshared l D cI cB cZ zz qq vv bt g ad cn In Fn (xs (nI (i + 1)).toNatClampNeg) (xs (nI (i + 2)).toNatClampNeg) (xs (nI (i + 3)).toNatClampNeg) H.size hI.1) kV_RL_174 hK hXS hS hFc (exP hP) (exD hD) 0 xo_0 rfl rfl ⟨Nat.le_of_ble_eq_true rfl, Nat.le_of_ble_eq_true rfl⟩ ⟨(by show K + 0 ≤ 600000; omega), (by show N + 0 ≤ 7302250; omega)⟩ rfl hl.1 rfl (Nat.le_of_ble_eq_true rfl) dL_law_1579) hS (fun q _ h => hFc q h) hFc (fun r6 u t H1 locs ht hvm w6 hB1 hz1 hk1 hS => ?_)
  obtain ⟨c6, I6, F6⟩ := u
  obtain ⟨hP1, hD1⟩ := hB1
  rw [ht] at hP1
  obtain ⟨hP, hD⟩ := exjoinL hP hD hk1 hFc hP1 hD1
  generalize H1 = H at hP hS ⊢
  have hd6 := w6.1.1
  have hf6 := w6.1.2.2
  have hI := IX.fr hI w6.1 w6.2.1 (by decide) (by decide)
  have hR := RR.fx hR hd6 hf6 (by decide) (by decide)
  refine lv_pop hx hb dL_law_1582 rfl ?_
  refine lv_aload_n hx hb dL_law_1583 rfl (lvA2 hl) ?_
  refine lv_aload_n hx hb dL_law_1584 rfl (lvA0 hl) ?_
  refine lv_iload_n hx hb dL_law_1585 rfl (lvA3 hl) ?_
  refine lv_iconst (v := 1) hx hb dL_law_1586 kic_1 ?_
  refine lv_iadd hx hb dL_law_1587 ?_
  refine lv_topi (fun y_8 ey_8 => ?_)
  obtain rfl : y_8 = nI (i + 1) := ey_8.trans (nI_add i 1)
  refine va_sld hx hb hX hbl hbA hS (vp_in_nI (by omega) (by omega)) dL_law_1588 ?_
  refine lv_topi (fun y_9 ey_9 => ?_)
  obtain rfl : y_9 = xs (nI (i + 1)).toNatClampNeg := ey_9
  refine lv_aload_n hx hb dL_law_1589 rfl (lvA0 hl) ?_
  refine lv_iload_n hx hb dL_law_1590 rfl (lvA3 hl) ?_
  refine lv_iconst (v := 2) hx hb dL_law_1591 kic_2 ?_
  refine lv_iadd hx hb dL_law_1592 ?_
  refine lv_topi (fun y_10 ey_10 => ?_)
  obtain rfl : y_10 = nI (i + 2) := ey_10.trans (nI_add i 2)
  refine va_sld hx hb hX hbl hbA hS (vp_in_nI (by omega) (by omega)) dL_law_1593 ?_
  refine lv_topi (fun y_11 ey_11 => ?_)
  obtain rfl : y_11 = xs (nI (i + 2)).toNatClampNeg := ey_11
  refine lv_aload_n hx hb dL_law_1594 rfl (lvA0 hl) ?_
  refine lv_iload_n hx hb dL_law_1595 rfl (lvA3 hl) ?_
  refine lv_iconst (v := 3) hx hb dL_law_1596 kic_3 ?_
  refine lv_iadd hx hb dL_law_1597 ?_
  refine lv_topi (fun y_12 ey_12 => ?_)
  obtain rfl : y_12 = nI (i + 3) := ey_12.trans (nI_add i 3)
  refine va_sld hx hb hX hbl hbA hS (vp_in_nI (by omega) (by omega)) dL_law_1598 ?_
  refine lv_topi (fun y_13 ey_13 => ?_)
  obtain rfl : y_13 = xs (nI (i + 3)).toNatClampNeg := ey_13
  have hFc := free_all (exDr hD) hS hA
  refine va_calli (runV_a (As := [.int (xs (nI (i + 1)).toNatClampNeg), .int (xs (nI (i + 2)).toNatClampNeg), .int (xs (nI (i + 3)).toNatClampNeg)]) (rest := []) S (q_shared l D cI cB cZ g2 c3 I3 F3 (xs (nI (i + 1)).toNatClampNeg) (xs (nI (i + 2)).toNatClampNeg) (xs (nI (i + 3)).toNatClampNeg) H.size hM.1) kV_RL_177 hK (exPr hP) (exDr hD) 0 rfl rfl rfl ⟨Nat.le_of_ble_eq_true rfl, Nat.le_of_ble_eq_true rfl⟩ ⟨(by show K + 0 ≤ 600000; omega), (by show N + 0 ≤ 7302250; omega)⟩ rfl hl.1 rfl (Nat.le_of_ble_eq_true rfl) dL_law_1599) hS (fun q _ h => hFc q h) hFc (fun r13 u t H1 locs ht hvm w13 hB1 hz1 hk1 hS => ?_)
  obtain ⟨c13, I13, F13⟩ := u
  obtain ⟨hP1, hD1⟩ := hB1
  rw [ht] at hP1
  obtain ⟨hP, hD⟩ := exjoin hP hD hk1 hFc hP1 hD1
  generalize H1 = H at hP hS ⊢
  obtain ⟨hM, hd13, hf13⟩ := imm_shared hM w13
  have hR := RR.fm hR hd13 hf13 (by decide) (by decide)
  refine lv_pop hx hb dL_law_1602 rfl ?_
  refine lv_goto (tgt := 2269) hx hb dL_law_1603 rfl ?_
  refine W.widen (k := K + 8) (n := N + 240) (by omega) (by omega) ?_
  exact kk _ _ _ _ _ _ _ _ _ hI hM hR hP hD hS ls hl
set_option maxRecDepth 100000 in
set_option maxHeartbeats 4000000 in
theorem lawc_38 {p : Program} {l : Launch} {e : Env} {s : State} {m : MethodId} {below : List Frame} {meth : Method} {c : Code} {b L : Nat} {xs : Nat → Int32} (C0 : lw_At p s m meth c b L xs) (hLN : L ≤ 3584) {A : Nat → Prop} (hA : ∀ q : Nat, s.heap.size ≤ q → A q) (hbA : ¬ A b) {D : va_G} {cI cB cZ : ClassId} {zz qq vv : Nat} {bt : Nat → Int32} {g g2 : Nat → Nat} (hK : KK D cI cB cZ s) (hXS : XS D zz qq vv bt A s s.heap) {ad : Nat → Nat → Nat} {cn : Nat → Nat} {In : Nat → Int32} {Fn : Nat → Nat → Int32} {c3 : Nat → Nat} {I3 : Nat → Int32} {F3 : Nat → Nat → Int32} (hI : IX ad cn Fn) (hM : IMM c3 F3) (hR : RR cn Fn c3 F3) {H : Heap} {locs : List Loc} (hP : va_P D vwCl (wX cI (D.1 99) zz g ad cn In Fn ++ wM cI cB cZ g2 c3 I3 F3) H) (hD : va_D A (wX cI (D.1 99) zz g ad cn In Fn ++ wM cI cB cZ g2 c3 I3 F3)) (hS : va_S A s.heap H locs) {K N i : Nat} (hi : i + 7 ≤ L) (hKN : K + 8 ≤ 600000 ∧ N + 240 ≤ 7302250) {ls : Array Slot} (hl : lv_has ls 4 [(0, .ref b), (1, .ref (g 0)), (2, .ref (g2 100)), (3, .int (nI i))]) (kk : ∀ (ad : Nat → Nat → Nat) (cn : Nat → Nat) (In : Nat → Int32) (Fn : Nat → Nat → Int32) (c3 : Nat → Nat) (I3 : Nat → Int32) (F3 : Nat → Nat → Int32) (H : Heap) (locs : List Loc), IX ad cn Fn → IMM c3 F3 → RR cn Fn c3 F3 → va_P D vwCl (wX cI (D.1 99) zz g ad cn In Fn ++ wM cI cB cZ g2 c3 I3 F3) H → va_D A (wX cI (D.1 99) zz g ad cn In Fn ++ wM cI cB cZ g2 c3 I3 F3) → va_S A s.heap H locs → ∀ ls : Array Slot, lv_has ls 4 [(0, .ref b), (1, .ref (g 0)), (2, .ref (g2 100)), (3, .int (nI i))] → W p l e room_1 s m #[Value.ref b] below meth c H locs (K + 8) (N + 240) (lw_Z below #[Value.ref b] s) (F0 m 2269 ls [])) : W p l e room_1 s m #[Value.ref b] below meth c H locs K N (lw_Z below #[Value.ref b] s) (F0 m 1606 ls []) := by
  obtain ⟨hx, hb, hr, hml, hown, hts, hX, hbl, hlocks, hgv⟩ := id C0
  have S : SF p m c code 4 s #[Value.ref b] RL := ⟨hx, hb, hml, hown, fun w h => hts w (wT_lw h)⟩
  refine lv_aload_n hx hb dL_law_1606 rfl (lvA1 hl) ?_
  refine lv_aload_n hx hb dL_law_1607 rfl (lvA0 hl) ?_
  refine lv_iload_n hx hb dL_law_1608 rfl (lvA3 hl) ?_
  refine lv_iconst (v := 1) hx hb dL_law_1609 kic_1 ?_
  refine lv_iadd hx hb dL_law_1610 ?_
  refine lv_topi (fun y_1 ey_1 => ?_)
  obtain rfl : y_1 = nI (i + 1) := ey_1.trans (nI_add i 1)
  refine va_sld hx hb hX hbl hbA hS (vp_in_nI (by omega) (by omega)) dL_law_1611 ?_
  refine lv_topi (fun y_2 ey_2 => ?_)
  obtain rfl : y_2 = xs (nI (i + 1)).toNatClampNeg := ey_2
  refine lv_aload_n hx hb dL_law_1612 rfl (lvA0 hl) ?_
  refine lv_iload_n hx hb dL_law_1613 rfl (lvA3 hl) ?_
  refine lv_iconst (v := 2) hx hb dL_law_1614 kic_2 ?_
  refine lv_iadd hx hb dL_law_1615 ?_
  refine lv_topi (fun y_3 ey_3 => ?_)
  obtain rfl : y_3 = nI (i + 2) := ey_3.trans (nI_add i 2)
  refine va_sld hx hb hX hbl hbA hS (vp_in_nI (by omega) (by omega)) dL_law_1616 ?_
  refine lv_topi (fun y_4 ey_4 => ?_)
  obtain rfl : y_4 = xs (nI (i + 2)).toNatClampNeg := ey_4
  refine lv_aload_n hx hb dL_law_1617 rfl (lvA0 hl) ?_
  refine lv_iload_n hx hb dL_law_1618 rfl (lvA3 hl) ?_
  refine lv_iconst (v := 3) hx hb dL_law_1619 kic_3 ?_
  refine lv_iadd hx hb dL_law_1620 ?_
  refine lv_topi (fun y_5 ey_5 => ?_)
  obtain rfl : y_5 = nI (i + 3) := ey_5.trans (nI_add i 3)
  refine va_sld hx hb hX hbl hbA hS (vp_in_nI (by omega) (by omega)) dL_law_1621 ?_
  refine lv_topi (fun y_6 ey_6 => ?_)
  obtain rfl : y_6 = xs (nI (i + 3)).toNatClampNeg := ey_6
  refine lv_aload_n hx hb dL_law_1622 rfl (lvA0 hl) ?_
  refine lv_iload_n hx hb dL_law_1623 rfl (lvA3 hl) ?_
  refine lv_iconst (v := 4) hx hb dL_law_1624 kic_4 ?_
  refine lv_iadd hx hb dL_law_1625 ?_
  refine lv_topi (fun y_7 ey_7 => ?_)
  obtain rfl : y_7 = nI (i + 4) := ey_7.trans (nI_add i 4)
  refine va_sld hx hb hX hbl hbA hS (vp_in_nI (by omega) (by omega)) dL_law_1626 ?_
  refine lv_topi (fun y_8 ey_8 => ?_)
  obtain rfl : y_8 = xs (nI (i + 4)).toNatClampNeg := ey_8
  have hFc := free_all (exD hD) hS hA
  refine va_calli (runV_xa (As := [.int (xs (nI (i + 1)).toNatClampNeg), .int (xs (nI (i + 2)).toNatClampNeg), .int (xs (nI (i + 3)).toNatClampNeg), .int (xs (nI (i + 4)).toNatClampNeg)]) (rest := []) S (q_Xnights l D cI cB cZ zz qq vv bt g ad cn In Fn (xs (nI (i + 1)).toNatClampNeg) (xs (nI (i + 2)).toNatClampNeg) (xs (nI (i + 3)).toNatClampNeg) (xs (nI (i + 4)).toNatClampNeg) H.size hI.1) kV_RL_178 hK hXS hS hFc (exP hP) (exD hD) 0 xo_0 rfl rfl ⟨Nat.le_of_ble_eq_true rfl, Nat.le_of_ble_eq_true rfl⟩ ⟨(by show K + 0 ≤ 600000; omega), (by show N + 0 ≤ 7302250; omega)⟩ rfl hl.1 rfl (Nat.le_of_ble_eq_true rfl) dL_law_1627) hS (fun q _ h => hFc q h) hFc (fun r8 u t H1 locs ht hvm w8 hB1 hz1 hk1 hS => ?_)
  obtain ⟨c8, I8, F8⟩ := u
  obtain ⟨hP1, hD1⟩ := hB1
  rw [ht] at hP1
  obtain ⟨hP, hD⟩ := exjoinL hP hD hk1 hFc hP1 hD1
  generalize H1 = H at hP hS ⊢
  have hd8 := w8.1.1
  have hf8 := w8.1.2.2
  have hI := IX.fr hI w8.1 w8.2.1 (by decide) (by decide)
  have hR := RR.fx hR hd8 hf8 (by decide) (by decide)
  refine lv_pop hx hb dL_law_1630 rfl ?_
  refine lv_aload_n hx hb dL_law_1631 rfl (lvA2 hl) ?_
  refine lv_aload_n hx hb dL_law_1632 rfl (lvA0 hl) ?_
  refine lv_iload_n hx hb dL_law_1633 rfl (lvA3 hl) ?_
  refine lv_iconst (v := 1) hx hb dL_law_1634 kic_1 ?_
  refine lv_iadd hx hb dL_law_1635 ?_
  refine lv_topi (fun y_10 ey_10 => ?_)
  obtain rfl : y_10 = nI (i + 1) := ey_10.trans (nI_add i 1)
  refine va_sld hx hb hX hbl hbA hS (vp_in_nI (by omega) (by omega)) dL_law_1636 ?_
  refine lv_topi (fun y_11 ey_11 => ?_)
  obtain rfl : y_11 = xs (nI (i + 1)).toNatClampNeg := ey_11
  refine lv_aload_n hx hb dL_law_1637 rfl (lvA0 hl) ?_
  refine lv_iload_n hx hb dL_law_1638 rfl (lvA3 hl) ?_
  refine lv_iconst (v := 2) hx hb dL_law_1639 kic_2 ?_
  refine lv_iadd hx hb dL_law_1640 ?_
  refine lv_topi (fun y_12 ey_12 => ?_)
  obtain rfl : y_12 = nI (i + 2) := ey_12.trans (nI_add i 2)
  refine va_sld hx hb hX hbl hbA hS (vp_in_nI (by omega) (by omega)) dL_law_1641 ?_
  refine lv_topi (fun y_13 ey_13 => ?_)
  obtain rfl : y_13 = xs (nI (i + 2)).toNatClampNeg := ey_13
  refine lv_aload_n hx hb dL_law_1642 rfl (lvA0 hl) ?_
  refine lv_iload_n hx hb dL_law_1643 rfl (lvA3 hl) ?_
  refine lv_iconst (v := 3) hx hb dL_law_1644 kic_3 ?_
  refine lv_iadd hx hb dL_law_1645 ?_
  refine lv_topi (fun y_14 ey_14 => ?_)
  obtain rfl : y_14 = nI (i + 3) := ey_14.trans (nI_add i 3)
  refine va_sld hx hb hX hbl hbA hS (vp_in_nI (by omega) (by omega)) dL_law_1646 ?_
  refine lv_topi (fun y_15 ey_15 => ?_)
  obtain rfl : y_15 = xs (nI (i + 3)).toNatClampNeg := ey_15
  refine lv_aload_n hx hb dL_law_1647 rfl (lvA0 hl) ?_
  refine lv_iload_n hx hb dL_law_1648 rfl (lvA3 hl) ?_
  refine lv_iconst (v := 4) hx hb dL_law_1649 kic_4 ?_
  refine lv_iadd hx hb dL_law_1650 ?_
  refine lv_topi (fun y_16 ey_16 => ?_)
  obtain rfl : y_16 = nI (i + 4) := ey_16.trans (nI_add i 4)
  refine va_sld hx hb hX hbl hbA hS (vp_in_nI (by omega) (by omega)) dL_law_1651 ?_
  refine lv_topi (fun y_17 ey_17 => ?_)
  obtain rfl : y_17 = xs (nI (i + 4)).toNatClampNeg := ey_17
  have hFc := free_all (exDr hD) hS hA
  refine va_calli (runV_a (As := [.int (xs (nI (i + 1)).toNatClampNeg), .int (xs (nI (i + 2)).toNatClampNeg), .int (xs (nI (i + 3)).toNatClampNeg), .int (xs (nI (i + 4)).toNatClampNeg)]) (rest := []) S (q_nights l D cI cB cZ g2 c3 I3 F3 (xs (nI (i + 1)).toNatClampNeg) (xs (nI (i + 2)).toNatClampNeg) (xs (nI (i + 3)).toNatClampNeg) (xs (nI (i + 4)).toNatClampNeg) H.size hM.1) kV_RL_181 hK (exPr hP) (exDr hD) 0 rfl rfl rfl ⟨Nat.le_of_ble_eq_true rfl, Nat.le_of_ble_eq_true rfl⟩ ⟨(by show K + 0 ≤ 600000; omega), (by show N + 0 ≤ 7302250; omega)⟩ rfl hl.1 rfl (Nat.le_of_ble_eq_true rfl) dL_law_1652) hS (fun q _ h => hFc q h) hFc (fun r17 u t H1 locs ht hvm w17 hB1 hz1 hk1 hS => ?_)
  obtain ⟨c17, I17, F17⟩ := u
  obtain ⟨hP1, hD1⟩ := hB1
  rw [ht] at hP1
  obtain ⟨hP, hD⟩ := exjoin hP hD hk1 hFc hP1 hD1
  generalize H1 = H at hP hS ⊢
  obtain ⟨hM, hd17, hf17⟩ := imm_nights hM w17
  have hR := RR.fm hR hd17 hf17 (by decide) (by decide)
  refine lv_pop hx hb dL_law_1655 rfl ?_
  refine lv_goto (tgt := 2269) hx hb dL_law_1656 rfl ?_
  refine W.widen (k := K + 8) (n := N + 240) (by omega) (by omega) ?_
  exact kk _ _ _ _ _ _ _ _ _ hI hM hR hP hD hS ls hl
set_option maxRecDepth 100000 in
set_option maxHeartbeats 4000000 in
theorem lawc_39 {p : Program} {l : Launch} {e : Env} {s : State} {m : MethodId} {below : List Frame} {meth : Method} {c : Code} {b L : Nat} {xs : Nat → Int32} (C0 : lw_At p s m meth c b L xs) (hLN : L ≤ 3584) {A : Nat → Prop} (hA : ∀ q : Nat, s.heap.size ≤ q → A q) (hbA : ¬ A b) {D : va_G} {cI cB cZ : ClassId} {zz qq vv : Nat} {bt : Nat → Int32} {g g2 : Nat → Nat} (hK : KK D cI cB cZ s) (hXS : XS D zz qq vv bt A s s.heap) {ad : Nat → Nat → Nat} {cn : Nat → Nat} {In : Nat → Int32} {Fn : Nat → Nat → Int32} {c3 : Nat → Nat} {I3 : Nat → Int32} {F3 : Nat → Nat → Int32} (hI : IX ad cn Fn) (hM : IMM c3 F3) (hR : RR cn Fn c3 F3) {H : Heap} {locs : List Loc} (hP : va_P D vwCl (wX cI (D.1 99) zz g ad cn In Fn ++ wM cI cB cZ g2 c3 I3 F3) H) (hD : va_D A (wX cI (D.1 99) zz g ad cn In Fn ++ wM cI cB cZ g2 c3 I3 F3)) (hS : va_S A s.heap H locs) {K N i : Nat} (hi : i + 7 ≤ L) (hKN : K + 8 ≤ 600000 ∧ N + 240 ≤ 7302250) {ls : Array Slot} (hl : lv_has ls 4 [(0, .ref b), (1, .ref (g 0)), (2, .ref (g2 100)), (3, .int (nI i))]) (kk : ∀ (ad : Nat → Nat → Nat) (cn : Nat → Nat) (In : Nat → Int32) (Fn : Nat → Nat → Int32) (c3 : Nat → Nat) (I3 : Nat → Int32) (F3 : Nat → Nat → Int32) (H : Heap) (locs : List Loc), IX ad cn Fn → IMM c3 F3 → RR cn Fn c3 F3 → va_P D vwCl (wX cI (D.1 99) zz g ad cn In Fn ++ wM cI cB cZ g2 c3 I3 F3) H → va_D A (wX cI (D.1 99) zz g ad cn In Fn ++ wM cI cB cZ g2 c3 I3 F3) → va_S A s.heap H locs → ∀ ls : Array Slot, lv_has ls 4 [(0, .ref b), (1, .ref (g 0)), (2, .ref (g2 100)), (3, .int (nI i))] → W p l e room_1 s m #[Value.ref b] below meth c H locs (K + 8) (N + 240) (lw_Z below #[Value.ref b] s) (F0 m 2269 ls [])) : W p l e room_1 s m #[Value.ref b] below meth c H locs K N (lw_Z below #[Value.ref b] s) (F0 m 1659 ls []) := by
  obtain ⟨hx, hb, hr, hml, hown, hts, hX, hbl, hlocks, hgv⟩ := id C0
  have S : SF p m c code 4 s #[Value.ref b] RL := ⟨hx, hb, hml, hown, fun w h => hts w (wT_lw h)⟩
  refine lv_aload_n hx hb dL_law_1659 rfl (lvA1 hl) ?_
  refine lv_aload_n hx hb dL_law_1660 rfl (lvA0 hl) ?_
  refine lv_iload_n hx hb dL_law_1661 rfl (lvA3 hl) ?_
  refine lv_iconst (v := 1) hx hb dL_law_1662 kic_1 ?_
  refine lv_iadd hx hb dL_law_1663 ?_
  refine lv_topi (fun y_1 ey_1 => ?_)
  obtain rfl : y_1 = nI (i + 1) := ey_1.trans (nI_add i 1)
  refine va_sld hx hb hX hbl hbA hS (vp_in_nI (by omega) (by omega)) dL_law_1664 ?_
  refine lv_topi (fun y_2 ey_2 => ?_)
  obtain rfl : y_2 = xs (nI (i + 1)).toNatClampNeg := ey_2
  refine lv_aload_n hx hb dL_law_1665 rfl (lvA0 hl) ?_
  refine lv_iload_n hx hb dL_law_1666 rfl (lvA3 hl) ?_
  refine lv_iconst (v := 2) hx hb dL_law_1667 kic_2 ?_
  refine lv_iadd hx hb dL_law_1668 ?_
  refine lv_topi (fun y_3 ey_3 => ?_)
  obtain rfl : y_3 = nI (i + 2) := ey_3.trans (nI_add i 2)
  refine va_sld hx hb hX hbl hbA hS (vp_in_nI (by omega) (by omega)) dL_law_1669 ?_
  refine lv_topi (fun y_4 ey_4 => ?_)
  obtain rfl : y_4 = xs (nI (i + 2)).toNatClampNeg := ey_4
  have hFc := free_all (exD hD) hS hA
  refine va_calli (runV_xa (As := [.int (xs (nI (i + 1)).toNatClampNeg), .int (xs (nI (i + 2)).toNatClampNeg)]) (rest := []) S (q_Xfeast l D cI cB cZ zz qq vv bt g ad cn In Fn (xs (nI (i + 1)).toNatClampNeg) (xs (nI (i + 2)).toNatClampNeg) H.size hI.1) kV_RL_182 hK hXS hS hFc (exP hP) (exD hD) 0 xo_0 rfl rfl ⟨Nat.le_of_ble_eq_true rfl, Nat.le_of_ble_eq_true rfl⟩ ⟨(by show K + 0 ≤ 600000; omega), (by show N + 0 ≤ 7302250; omega)⟩ rfl hl.1 rfl (Nat.le_of_ble_eq_true rfl) dL_law_1670) hS (fun q _ h => hFc q h) hFc (fun r4 u t H1 locs ht hvm w4 hB1 hz1 hk1 hS => ?_)
  obtain ⟨c4, I4, F4⟩ := u
  obtain ⟨hP1, hD1⟩ := hB1
  rw [ht] at hP1
  obtain ⟨hP, hD⟩ := exjoinL hP hD hk1 hFc hP1 hD1
  generalize H1 = H at hP hS ⊢
  have hd4 := w4.1.1
  have hf4 := w4.1.2.2
  have hI := IX.fr hI w4.1 w4.2.1 (by decide) (by decide)
  have hR := RR.fx hR hd4 hf4 (by decide) (by decide)
  refine lv_pop hx hb dL_law_1673 rfl ?_
  refine lv_aload_n hx hb dL_law_1674 rfl (lvA2 hl) ?_
  refine lv_aload_n hx hb dL_law_1675 rfl (lvA0 hl) ?_
  refine lv_iload_n hx hb dL_law_1676 rfl (lvA3 hl) ?_
  refine lv_iconst (v := 1) hx hb dL_law_1677 kic_1 ?_
  refine lv_iadd hx hb dL_law_1678 ?_
  refine lv_topi (fun y_6 ey_6 => ?_)
  obtain rfl : y_6 = nI (i + 1) := ey_6.trans (nI_add i 1)
  refine va_sld hx hb hX hbl hbA hS (vp_in_nI (by omega) (by omega)) dL_law_1679 ?_
  refine lv_topi (fun y_7 ey_7 => ?_)
  obtain rfl : y_7 = xs (nI (i + 1)).toNatClampNeg := ey_7
  refine lv_aload_n hx hb dL_law_1680 rfl (lvA0 hl) ?_
  refine lv_iload_n hx hb dL_law_1681 rfl (lvA3 hl) ?_
  refine lv_iconst (v := 2) hx hb dL_law_1682 kic_2 ?_
  refine lv_iadd hx hb dL_law_1683 ?_
  refine lv_topi (fun y_8 ey_8 => ?_)
  obtain rfl : y_8 = nI (i + 2) := ey_8.trans (nI_add i 2)
  refine va_sld hx hb hX hbl hbA hS (vp_in_nI (by omega) (by omega)) dL_law_1684 ?_
  refine lv_topi (fun y_9 ey_9 => ?_)
  obtain rfl : y_9 = xs (nI (i + 2)).toNatClampNeg := ey_9
  have hFc := free_all (exDr hD) hS hA
  refine va_calli (runV_a (As := [.int (xs (nI (i + 1)).toNatClampNeg), .int (xs (nI (i + 2)).toNatClampNeg)]) (rest := []) S (q_feast l D cI cB cZ g2 c3 I3 F3 (xs (nI (i + 1)).toNatClampNeg) (xs (nI (i + 2)).toNatClampNeg) H.size hM.1) kV_RL_185 hK (exPr hP) (exDr hD) 0 rfl rfl rfl ⟨Nat.le_of_ble_eq_true rfl, Nat.le_of_ble_eq_true rfl⟩ ⟨(by show K + 0 ≤ 600000; omega), (by show N + 0 ≤ 7302250; omega)⟩ rfl hl.1 rfl (Nat.le_of_ble_eq_true rfl) dL_law_1685) hS (fun q _ h => hFc q h) hFc (fun r9 u t H1 locs ht hvm w9 hB1 hz1 hk1 hS => ?_)
  obtain ⟨c9, I9, F9⟩ := u
  obtain ⟨hP1, hD1⟩ := hB1
  rw [ht] at hP1
  obtain ⟨hP, hD⟩ := exjoin hP hD hk1 hFc hP1 hD1
  generalize H1 = H at hP hS ⊢
  obtain ⟨hM, hd9, hf9⟩ := imm_feast hM w9
  have hR := RR.fm hR hd9 hf9 (by decide) (by decide)
  refine lv_pop hx hb dL_law_1688 rfl ?_
  refine lv_goto (tgt := 2269) hx hb dL_law_1689 rfl ?_
  refine W.widen (k := K + 8) (n := N + 240) (by omega) (by omega) ?_
  exact kk _ _ _ _ _ _ _ _ _ hI hM hR hP hD hS ls hl
set_option maxRecDepth 100000 in
set_option maxHeartbeats 4000000 in
theorem lawc_40 {p : Program} {l : Launch} {e : Env} {s : State} {m : MethodId} {below : List Frame} {meth : Method} {c : Code} {b L : Nat} {xs : Nat → Int32} (C0 : lw_At p s m meth c b L xs) (hLN : L ≤ 3584) {A : Nat → Prop} (hA : ∀ q : Nat, s.heap.size ≤ q → A q) (hbA : ¬ A b) {D : va_G} {cI cB cZ : ClassId} {zz qq vv : Nat} {bt : Nat → Int32} {g g2 : Nat → Nat} (hK : KK D cI cB cZ s) (hXS : XS D zz qq vv bt A s s.heap) {ad : Nat → Nat → Nat} {cn : Nat → Nat} {In : Nat → Int32} {Fn : Nat → Nat → Int32} {c3 : Nat → Nat} {I3 : Nat → Int32} {F3 : Nat → Nat → Int32} (hI : IX ad cn Fn) (hM : IMM c3 F3) (hR : RR cn Fn c3 F3) {H : Heap} {locs : List Loc} (hP : va_P D vwCl (wX cI (D.1 99) zz g ad cn In Fn ++ wM cI cB cZ g2 c3 I3 F3) H) (hD : va_D A (wX cI (D.1 99) zz g ad cn In Fn ++ wM cI cB cZ g2 c3 I3 F3)) (hS : va_S A s.heap H locs) {K N i : Nat} (hi : i + 7 ≤ L) (hKN : K + 8 ≤ 600000 ∧ N + 240 ≤ 7302250) {ls : Array Slot} (hl : lv_has ls 4 [(0, .ref b), (1, .ref (g 0)), (2, .ref (g2 100)), (3, .int (nI i))]) (kk : ∀ (ad : Nat → Nat → Nat) (cn : Nat → Nat) (In : Nat → Int32) (Fn : Nat → Nat → Int32) (c3 : Nat → Nat) (I3 : Nat → Int32) (F3 : Nat → Nat → Int32) (H : Heap) (locs : List Loc), IX ad cn Fn → IMM c3 F3 → RR cn Fn c3 F3 → va_P D vwCl (wX cI (D.1 99) zz g ad cn In Fn ++ wM cI cB cZ g2 c3 I3 F3) H → va_D A (wX cI (D.1 99) zz g ad cn In Fn ++ wM cI cB cZ g2 c3 I3 F3) → va_S A s.heap H locs → ∀ ls : Array Slot, lv_has ls 4 [(0, .ref b), (1, .ref (g 0)), (2, .ref (g2 100)), (3, .int (nI i))] → W p l e room_1 s m #[Value.ref b] below meth c H locs (K + 8) (N + 240) (lw_Z below #[Value.ref b] s) (F0 m 2269 ls [])) : W p l e room_1 s m #[Value.ref b] below meth c H locs K N (lw_Z below #[Value.ref b] s) (F0 m 1692 ls []) := by
  obtain ⟨hx, hb, hr, hml, hown, hts, hX, hbl, hlocks, hgv⟩ := id C0
  have S : SF p m c code 4 s #[Value.ref b] RL := ⟨hx, hb, hml, hown, fun w h => hts w (wT_lw h)⟩
  refine lv_aload_n hx hb dL_law_1692 rfl (lvA1 hl) ?_
  refine lv_aload_n hx hb dL_law_1693 rfl (lvA0 hl) ?_
  refine lv_iload_n hx hb dL_law_1694 rfl (lvA3 hl) ?_
  refine lv_iconst (v := 1) hx hb dL_law_1695 kic_1 ?_
  refine lv_iadd hx hb dL_law_1696 ?_
  refine lv_topi (fun y_1 ey_1 => ?_)
  obtain rfl : y_1 = nI (i + 1) := ey_1.trans (nI_add i 1)
  refine va_sld hx hb hX hbl hbA hS (vp_in_nI (by omega) (by omega)) dL_law_1697 ?_
  refine lv_topi (fun y_2 ey_2 => ?_)
  obtain rfl : y_2 = xs (nI (i + 1)).toNatClampNeg := ey_2
  refine lv_aload_n hx hb dL_law_1698 rfl (lvA0 hl) ?_
  refine lv_iload_n hx hb dL_law_1699 rfl (lvA3 hl) ?_
  refine lv_iconst (v := 2) hx hb dL_law_1700 kic_2 ?_
  refine lv_iadd hx hb dL_law_1701 ?_
  refine lv_topi (fun y_3 ey_3 => ?_)
  obtain rfl : y_3 = nI (i + 2) := ey_3.trans (nI_add i 2)
  refine va_sld hx hb hX hbl hbA hS (vp_in_nI (by omega) (by omega)) dL_law_1702 ?_
  refine lv_topi (fun y_4 ey_4 => ?_)
  obtain rfl : y_4 = xs (nI (i + 2)).toNatClampNeg := ey_4
  refine vp_callSi (runV_rxa (As := [.int (xs (nI (i + 1)).toNatClampNeg), .int (xs (nI (i + 2)).toNatClampNeg)]) (rest := []) S (q_Xfeasted l D cI cB cZ zz qq vv bt g ad cn In Fn (xs (nI (i + 1)).toNatClampNeg) (xs (nI (i + 2)).toNatClampNeg) hI.1 hI.2.2.2.2.1) kV_RL_186 hK hXS hS (exP hP) 0 xo_0 rfl rfl ⟨Nat.le_of_ble_eq_true rfl, Nat.le_of_ble_eq_true rfl⟩ ⟨(by show K + 0 ≤ 600000; omega), (by show N + 0 ≤ 7302250; omega)⟩ rfl hl.1 rfl (Nat.le_of_ble_eq_true rfl) dL_law_1703) (fun r4 w4 => ?_)
  refine lv_pop hx hb dL_law_1706 rfl ?_
  refine lv_aload_n hx hb dL_law_1707 rfl (lvA2 hl) ?_
  refine lv_aload_n hx hb dL_law_1708 rfl (lvA0 hl) ?_
  refine lv_iload_n hx hb dL_law_1709 rfl (lvA3 hl) ?_
  refine lv_iconst (v := 1) hx hb dL_law_1710 kic_1 ?_
  refine lv_iadd hx hb dL_law_1711 ?_
  refine lv_topi (fun y_6 ey_6 => ?_)
  obtain rfl : y_6 = nI (i + 1) := ey_6.trans (nI_add i 1)
  refine va_sld hx hb hX hbl hbA hS (vp_in_nI (by omega) (by omega)) dL_law_1712 ?_
  refine lv_topi (fun y_7 ey_7 => ?_)
  obtain rfl : y_7 = xs (nI (i + 1)).toNatClampNeg := ey_7
  refine lv_aload_n hx hb dL_law_1713 rfl (lvA0 hl) ?_
  refine lv_iload_n hx hb dL_law_1714 rfl (lvA3 hl) ?_
  refine lv_iconst (v := 2) hx hb dL_law_1715 kic_2 ?_
  refine lv_iadd hx hb dL_law_1716 ?_
  refine lv_topi (fun y_8 ey_8 => ?_)
  obtain rfl : y_8 = nI (i + 2) := ey_8.trans (nI_add i 2)
  refine va_sld hx hb hX hbl hbA hS (vp_in_nI (by omega) (by omega)) dL_law_1717 ?_
  refine lv_topi (fun y_9 ey_9 => ?_)
  obtain rfl : y_9 = xs (nI (i + 2)).toNatClampNeg := ey_9
  refine vp_callSi (runV_ra (As := [.int (xs (nI (i + 1)).toNatClampNeg), .int (xs (nI (i + 2)).toNatClampNeg)]) (rest := []) S (q_feasted l D cI cB cZ g2 c3 I3 F3 (xs (nI (i + 1)).toNatClampNeg) (xs (nI (i + 2)).toNatClampNeg) hM.1) kV_RL_189 hK (exPr hP) 0 rfl rfl rfl ⟨Nat.le_of_ble_eq_true rfl, Nat.le_of_ble_eq_true rfl⟩ ⟨(by show K + 0 ≤ 600000; omega), (by show N + 0 ≤ 7302250; omega)⟩ rfl hl.1 rfl (Nat.le_of_ble_eq_true rfl) dL_law_1718) (fun r9 w9 => ?_)
  refine lv_pop hx hb dL_law_1721 rfl ?_
  refine lv_goto (tgt := 2269) hx hb dL_law_1722 rfl ?_
  refine W.widen (k := K + 8) (n := N + 240) (by omega) (by omega) ?_
  exact kk _ _ _ _ _ _ _ _ _ hI hM hR hP hD hS ls hl
set_option maxRecDepth 100000 in
set_option maxHeartbeats 4000000 in
theorem lawc_41 {p : Program} {l : Launch} {e : Env} {s : State} {m : MethodId} {below : List Frame} {meth : Method} {c : Code} {b L : Nat} {xs : Nat → Int32} (C0 : lw_At p s m meth c b L xs) (hLN : L ≤ 3584) {A : Nat → Prop} (hA : ∀ q : Nat, s.heap.size ≤ q → A q) (hbA : ¬ A b) {D : va_G} {cI cB cZ : ClassId} {zz qq vv : Nat} {bt : Nat → Int32} {g g2 : Nat → Nat} (hK : KK D cI cB cZ s) (hXS : XS D zz qq vv bt A s s.heap) {ad : Nat → Nat → Nat} {cn : Nat → Nat} {In : Nat → Int32} {Fn : Nat → Nat → Int32} {c3 : Nat → Nat} {I3 : Nat → Int32} {F3 : Nat → Nat → Int32} (hI : IX ad cn Fn) (hM : IMM c3 F3) (hR : RR cn Fn c3 F3) {H : Heap} {locs : List Loc} (hP : va_P D vwCl (wX cI (D.1 99) zz g ad cn In Fn ++ wM cI cB cZ g2 c3 I3 F3) H) (hD : va_D A (wX cI (D.1 99) zz g ad cn In Fn ++ wM cI cB cZ g2 c3 I3 F3)) (hS : va_S A s.heap H locs) {K N i : Nat} (hi : i + 7 ≤ L) (hKN : K + 8 ≤ 600000 ∧ N + 240 ≤ 7302250) {ls : Array Slot} (hl : lv_has ls 4 [(0, .ref b), (1, .ref (g 0)), (2, .ref (g2 100)), (3, .int (nI i))]) (kk : ∀ (ad : Nat → Nat → Nat) (cn : Nat → Nat) (In : Nat → Int32) (Fn : Nat → Nat → Int32) (c3 : Nat → Nat) (I3 : Nat → Int32) (F3 : Nat → Nat → Int32) (H : Heap) (locs : List Loc), IX ad cn Fn → IMM c3 F3 → RR cn Fn c3 F3 → va_P D vwCl (wX cI (D.1 99) zz g ad cn In Fn ++ wM cI cB cZ g2 c3 I3 F3) H → va_D A (wX cI (D.1 99) zz g ad cn In Fn ++ wM cI cB cZ g2 c3 I3 F3) → va_S A s.heap H locs → ∀ ls : Array Slot, lv_has ls 4 [(0, .ref b), (1, .ref (g 0)), (2, .ref (g2 100)), (3, .int (nI i))] → W p l e room_1 s m #[Value.ref b] below meth c H locs (K + 8) (N + 240) (lw_Z below #[Value.ref b] s) (F0 m 2269 ls [])) : W p l e room_1 s m #[Value.ref b] below meth c H locs K N (lw_Z below #[Value.ref b] s) (F0 m 1725 ls []) := by
  obtain ⟨hx, hb, hr, hml, hown, hts, hX, hbl, hlocks, hgv⟩ := id C0
  have S : SF p m c code 4 s #[Value.ref b] RL := ⟨hx, hb, hml, hown, fun w h => hts w (wT_lw h)⟩
  refine lv_aload_n hx hb dL_law_1725 rfl (lvA1 hl) ?_
  have hFc := free_all (exD hD) hS hA
  refine va_calli (runV_xa (As := []) (rest := []) S (q_Xdrum l D cI cB cZ zz qq vv bt g ad cn In Fn  H.size hI.1) kV_RL_190 hK hXS hS hFc (exP hP) (exD hD) 0 xo_0 rfl rfl ⟨Nat.le_of_ble_eq_true rfl, Nat.le_of_ble_eq_true rfl⟩ ⟨(by show K + 0 ≤ 600000; omega), (by show N + 0 ≤ 7302250; omega)⟩ rfl hl.1 rfl (Nat.le_of_ble_eq_true rfl) dL_law_1726) hS (fun q _ h => hFc q h) hFc (fun r0 u t H1 locs ht hvm w0 hB1 hz1 hk1 hS => ?_)
  obtain ⟨c0, I0, F0⟩ := u
  obtain ⟨hP1, hD1⟩ := hB1
  rw [ht] at hP1
  obtain ⟨hP, hD⟩ := exjoinL hP hD hk1 hFc hP1 hD1
  generalize H1 = H at hP hS ⊢
  have hd0 := w0.1.1
  have hf0 := w0.1.2.2
  have hI := IX.fr hI w0.1 w0.2.1 (by decide) (by decide)
  have hR := RR.fx hR hd0 hf0 (by decide) (by decide)
  refine lv_pop hx hb dL_law_1729 rfl ?_
  refine lv_aload_n hx hb dL_law_1730 rfl (lvA2 hl) ?_
  have hFc := free_all (exDr hD) hS hA
  refine va_calli (runV_a (As := []) (rest := []) S (q_drum l D cI cB cZ g2 c3 I3 F3  H.size hM.1) kV_RL_193 hK (exPr hP) (exDr hD) 0 rfl rfl rfl ⟨Nat.le_of_ble_eq_true rfl, Nat.le_of_ble_eq_true rfl⟩ ⟨(by show K + 0 ≤ 600000; omega), (by show N + 0 ≤ 7302250; omega)⟩ rfl hl.1 rfl (Nat.le_of_ble_eq_true rfl) dL_law_1731) hS (fun q _ h => hFc q h) hFc (fun r1 u t H1 locs ht hvm w1 hB1 hz1 hk1 hS => ?_)
  obtain ⟨c1, I1, F1⟩ := u
  obtain ⟨hP1, hD1⟩ := hB1
  rw [ht] at hP1
  obtain ⟨hP, hD⟩ := exjoin hP hD hk1 hFc hP1 hD1
  generalize H1 = H at hP hS ⊢
  obtain ⟨hM, hd1, hf1⟩ := imm_drum hM w1
  have hR := RR.fm hR hd1 hf1 (by decide) (by decide)
  refine lv_pop hx hb dL_law_1734 rfl ?_
  refine lv_goto (tgt := 2269) hx hb dL_law_1735 rfl ?_
  refine W.widen (k := K + 8) (n := N + 240) (by omega) (by omega) ?_
  exact kk _ _ _ _ _ _ _ _ _ hI hM hR hP hD hS ls hl
set_option maxRecDepth 100000 in
set_option maxHeartbeats 4000000 in
theorem lawc_42 {p : Program} {l : Launch} {e : Env} {s : State} {m : MethodId} {below : List Frame} {meth : Method} {c : Code} {b L : Nat} {xs : Nat → Int32} (C0 : lw_At p s m meth c b L xs) (hLN : L ≤ 3584) {A : Nat → Prop} (hA : ∀ q : Nat, s.heap.size ≤ q → A q) (hbA : ¬ A b) {D : va_G} {cI cB cZ : ClassId} {zz qq vv : Nat} {bt : Nat → Int32} {g g2 : Nat → Nat} (hK : KK D cI cB cZ s) (hXS : XS D zz qq vv bt A s s.heap) {ad : Nat → Nat → Nat} {cn : Nat → Nat} {In : Nat → Int32} {Fn : Nat → Nat → Int32} {c3 : Nat → Nat} {I3 : Nat → Int32} {F3 : Nat → Nat → Int32} (hI : IX ad cn Fn) (hM : IMM c3 F3) (hR : RR cn Fn c3 F3) {H : Heap} {locs : List Loc} (hP : va_P D vwCl (wX cI (D.1 99) zz g ad cn In Fn ++ wM cI cB cZ g2 c3 I3 F3) H) (hD : va_D A (wX cI (D.1 99) zz g ad cn In Fn ++ wM cI cB cZ g2 c3 I3 F3)) (hS : va_S A s.heap H locs) {K N i : Nat} (hi : i + 7 ≤ L) (hKN : K + 8 ≤ 600000 ∧ N + 240 ≤ 7302250) {ls : Array Slot} (hl : lv_has ls 4 [(0, .ref b), (1, .ref (g 0)), (2, .ref (g2 100)), (3, .int (nI i))]) (kk : ∀ (ad : Nat → Nat → Nat) (cn : Nat → Nat) (In : Nat → Int32) (Fn : Nat → Nat → Int32) (c3 : Nat → Nat) (I3 : Nat → Int32) (F3 : Nat → Nat → Int32) (H : Heap) (locs : List Loc), IX ad cn Fn → IMM c3 F3 → RR cn Fn c3 F3 → va_P D vwCl (wX cI (D.1 99) zz g ad cn In Fn ++ wM cI cB cZ g2 c3 I3 F3) H → va_D A (wX cI (D.1 99) zz g ad cn In Fn ++ wM cI cB cZ g2 c3 I3 F3) → va_S A s.heap H locs → ∀ ls : Array Slot, lv_has ls 4 [(0, .ref b), (1, .ref (g 0)), (2, .ref (g2 100)), (3, .int (nI i))] → W p l e room_1 s m #[Value.ref b] below meth c H locs (K + 8) (N + 240) (lw_Z below #[Value.ref b] s) (F0 m 2269 ls [])) : W p l e room_1 s m #[Value.ref b] below meth c H locs K N (lw_Z below #[Value.ref b] s) (F0 m 1738 ls []) := by
  obtain ⟨hx, hb, hr, hml, hown, hts, hX, hbl, hlocks, hgv⟩ := id C0
  have S : SF p m c code 4 s #[Value.ref b] RL := ⟨hx, hb, hml, hown, fun w h => hts w (wT_lw h)⟩
  refine lv_aload_n hx hb dL_law_1738 rfl (lvA1 hl) ?_
  refine lv_aload_n hx hb dL_law_1739 rfl (lvA0 hl) ?_
  refine lv_iload_n hx hb dL_law_1740 rfl (lvA3 hl) ?_
  refine lv_iconst (v := 1) hx hb dL_law_1741 kic_1 ?_
  refine lv_iadd hx hb dL_law_1742 ?_
  refine lv_topi (fun y_1 ey_1 => ?_)
  obtain rfl : y_1 = nI (i + 1) := ey_1.trans (nI_add i 1)
  refine va_sld hx hb hX hbl hbA hS (vp_in_nI (by omega) (by omega)) dL_law_1743 ?_
  refine lv_topi (fun y_2 ey_2 => ?_)
  obtain rfl : y_2 = xs (nI (i + 1)).toNatClampNeg := ey_2
  refine lv_aload_n hx hb dL_law_1744 rfl (lvA0 hl) ?_
  refine lv_iload_n hx hb dL_law_1745 rfl (lvA3 hl) ?_
  refine lv_iconst (v := 2) hx hb dL_law_1746 kic_2 ?_
  refine lv_iadd hx hb dL_law_1747 ?_
  refine lv_topi (fun y_3 ey_3 => ?_)
  obtain rfl : y_3 = nI (i + 2) := ey_3.trans (nI_add i 2)
  refine va_sld hx hb hX hbl hbA hS (vp_in_nI (by omega) (by omega)) dL_law_1748 ?_
  refine lv_topi (fun y_4 ey_4 => ?_)
  obtain rfl : y_4 = xs (nI (i + 2)).toNatClampNeg := ey_4
  refine lv_aload_n hx hb dL_law_1749 rfl (lvA0 hl) ?_
  refine lv_iload_n hx hb dL_law_1750 rfl (lvA3 hl) ?_
  refine lv_iconst (v := 3) hx hb dL_law_1751 kic_3 ?_
  refine lv_iadd hx hb dL_law_1752 ?_
  refine lv_topi (fun y_5 ey_5 => ?_)
  obtain rfl : y_5 = nI (i + 3) := ey_5.trans (nI_add i 3)
  refine va_sld hx hb hX hbl hbA hS (vp_in_nI (by omega) (by omega)) dL_law_1753 ?_
  refine lv_topi (fun y_6 ey_6 => ?_)
  obtain rfl : y_6 = xs (nI (i + 3)).toNatClampNeg := ey_6
  have hFc := free_all (exD hD) hS hA
  refine va_calli (runV_xa (As := [.int (xs (nI (i + 1)).toNatClampNeg), .int (xs (nI (i + 2)).toNatClampNeg), .int (xs (nI (i + 3)).toNatClampNeg)]) (rest := []) S (q_Xmoves l D cI cB cZ zz qq vv bt g ad cn In Fn (xs (nI (i + 1)).toNatClampNeg) (xs (nI (i + 2)).toNatClampNeg) (xs (nI (i + 3)).toNatClampNeg) H.size hI.1) kV_RL_194 hK hXS hS hFc (exP hP) (exD hD) 0 xo_0 rfl rfl ⟨Nat.le_of_ble_eq_true rfl, Nat.le_of_ble_eq_true rfl⟩ ⟨(by show K + 2 ≤ 600000; omega), (by show N + 103 ≤ 7302250; omega)⟩ rfl hl.1 rfl (Nat.le_of_ble_eq_true rfl) dL_law_1754) hS (fun q _ h => hFc q h) hFc (fun r6 u t H1 locs ht hvm w6 hB1 hz1 hk1 hS => ?_)
  obtain ⟨a6, c6, I6, F6⟩ := u
  obtain ⟨hP1, hD1⟩ := hB1
  rw [ht] at hP1
  obtain ⟨hP, hD⟩ := exjoinL hP hD hk1 hFc hP1 hD1
  generalize H1 = H at hP hS ⊢
  obtain ⟨hI, hd6, hf6⟩ := ix_moves hI w6
  have hR := RR.fx hR hd6 hf6 (by decide) (by decide)
  refine lv_pop hx hb dL_law_1757 rfl ?_
  refine lv_aload_n hx hb dL_law_1758 rfl (lvA2 hl) ?_
  refine lv_aload_n hx hb dL_law_1759 rfl (lvA0 hl) ?_
  refine lv_iload_n hx hb dL_law_1760 rfl (lvA3 hl) ?_
  refine lv_iconst (v := 1) hx hb dL_law_1761 kic_1 ?_
  refine lv_iadd hx hb dL_law_1762 ?_
  refine lv_topi (fun y_8 ey_8 => ?_)
  obtain rfl : y_8 = nI (i + 1) := ey_8.trans (nI_add i 1)
  refine va_sld hx hb hX hbl hbA hS (vp_in_nI (by omega) (by omega)) dL_law_1763 ?_
  refine lv_topi (fun y_9 ey_9 => ?_)
  obtain rfl : y_9 = xs (nI (i + 1)).toNatClampNeg := ey_9
  refine lv_aload_n hx hb dL_law_1764 rfl (lvA0 hl) ?_
  refine lv_iload_n hx hb dL_law_1765 rfl (lvA3 hl) ?_
  refine lv_iconst (v := 2) hx hb dL_law_1766 kic_2 ?_
  refine lv_iadd hx hb dL_law_1767 ?_
  refine lv_topi (fun y_10 ey_10 => ?_)
  obtain rfl : y_10 = nI (i + 2) := ey_10.trans (nI_add i 2)
  refine va_sld hx hb hX hbl hbA hS (vp_in_nI (by omega) (by omega)) dL_law_1768 ?_
  refine lv_topi (fun y_11 ey_11 => ?_)
  obtain rfl : y_11 = xs (nI (i + 2)).toNatClampNeg := ey_11
  refine lv_aload_n hx hb dL_law_1769 rfl (lvA0 hl) ?_
  refine lv_iload_n hx hb dL_law_1770 rfl (lvA3 hl) ?_
  refine lv_iconst (v := 3) hx hb dL_law_1771 kic_3 ?_
  refine lv_iadd hx hb dL_law_1772 ?_
  refine lv_topi (fun y_12 ey_12 => ?_)
  obtain rfl : y_12 = nI (i + 3) := ey_12.trans (nI_add i 3)
  refine va_sld hx hb hX hbl hbA hS (vp_in_nI (by omega) (by omega)) dL_law_1773 ?_
  refine lv_topi (fun y_13 ey_13 => ?_)
  obtain rfl : y_13 = xs (nI (i + 3)).toNatClampNeg := ey_13
  have hFc := free_all (exDr hD) hS hA
  refine va_calli (runV_a (As := [.int (xs (nI (i + 1)).toNatClampNeg), .int (xs (nI (i + 2)).toNatClampNeg), .int (xs (nI (i + 3)).toNatClampNeg)]) (rest := []) S (q_moves l D cI cB cZ g2 c3 I3 F3 (xs (nI (i + 1)).toNatClampNeg) (xs (nI (i + 2)).toNatClampNeg) (xs (nI (i + 3)).toNatClampNeg) H.size hM.1) kV_RL_197 hK (exPr hP) (exDr hD) 0 rfl rfl rfl ⟨Nat.le_of_ble_eq_true rfl, Nat.le_of_ble_eq_true rfl⟩ ⟨(by show K + 2 + 0 ≤ 600000; omega), (by show N + 103 + 0 ≤ 7302250; omega)⟩ rfl hl.1 rfl (Nat.le_of_ble_eq_true rfl) dL_law_1774) hS (fun q _ h => hFc q h) hFc (fun r13 u t H1 locs ht hvm w13 hB1 hz1 hk1 hS => ?_)
  obtain ⟨c13, I13, F13⟩ := u
  obtain ⟨hP1, hD1⟩ := hB1
  rw [ht] at hP1
  obtain ⟨hP, hD⟩ := exjoin hP hD hk1 hFc hP1 hD1
  generalize H1 = H at hP hS ⊢
  obtain ⟨hM, hd13, hf13⟩ := imm_moves hM w13
  have hR := RR.fm hR hd13 hf13 (by decide) (by decide)
  refine lv_pop hx hb dL_law_1777 rfl ?_
  refine lv_goto (tgt := 2269) hx hb dL_law_1778 rfl ?_
  refine W.widen (k := K + 8) (n := N + 240) (by omega) (by omega) ?_
  exact kk _ _ _ _ _ _ _ _ _ hI hM hR hP hD hS ls hl
set_option maxRecDepth 100000 in
set_option maxHeartbeats 4000000 in
theorem lawc_43 {p : Program} {l : Launch} {e : Env} {s : State} {m : MethodId} {below : List Frame} {meth : Method} {c : Code} {b L : Nat} {xs : Nat → Int32} (C0 : lw_At p s m meth c b L xs) (hLN : L ≤ 3584) {A : Nat → Prop} (hA : ∀ q : Nat, s.heap.size ≤ q → A q) (hbA : ¬ A b) {D : va_G} {cI cB cZ : ClassId} {zz qq vv : Nat} {bt : Nat → Int32} {g g2 : Nat → Nat} (hK : KK D cI cB cZ s) (hXS : XS D zz qq vv bt A s s.heap) {ad : Nat → Nat → Nat} {cn : Nat → Nat} {In : Nat → Int32} {Fn : Nat → Nat → Int32} {c3 : Nat → Nat} {I3 : Nat → Int32} {F3 : Nat → Nat → Int32} (hI : IX ad cn Fn) (hM : IMM c3 F3) (hR : RR cn Fn c3 F3) {H : Heap} {locs : List Loc} (hP : va_P D vwCl (wX cI (D.1 99) zz g ad cn In Fn ++ wM cI cB cZ g2 c3 I3 F3) H) (hD : va_D A (wX cI (D.1 99) zz g ad cn In Fn ++ wM cI cB cZ g2 c3 I3 F3)) (hS : va_S A s.heap H locs) {K N i : Nat} (hi : i + 7 ≤ L) (hKN : K + 8 ≤ 600000 ∧ N + 240 ≤ 7302250) {ls : Array Slot} (hl : lv_has ls 4 [(0, .ref b), (1, .ref (g 0)), (2, .ref (g2 100)), (3, .int (nI i))]) (kk : ∀ (ad : Nat → Nat → Nat) (cn : Nat → Nat) (In : Nat → Int32) (Fn : Nat → Nat → Int32) (c3 : Nat → Nat) (I3 : Nat → Int32) (F3 : Nat → Nat → Int32) (H : Heap) (locs : List Loc), IX ad cn Fn → IMM c3 F3 → RR cn Fn c3 F3 → va_P D vwCl (wX cI (D.1 99) zz g ad cn In Fn ++ wM cI cB cZ g2 c3 I3 F3) H → va_D A (wX cI (D.1 99) zz g ad cn In Fn ++ wM cI cB cZ g2 c3 I3 F3) → va_S A s.heap H locs → ∀ ls : Array Slot, lv_has ls 4 [(0, .ref b), (1, .ref (g 0)), (2, .ref (g2 100)), (3, .int (nI i))] → W p l e room_1 s m #[Value.ref b] below meth c H locs (K + 8) (N + 240) (lw_Z below #[Value.ref b] s) (F0 m 2269 ls [])) : W p l e room_1 s m #[Value.ref b] below meth c H locs K N (lw_Z below #[Value.ref b] s) (F0 m 1781 ls []) := by
  obtain ⟨hx, hb, hr, hml, hown, hts, hX, hbl, hlocks, hgv⟩ := id C0
  have S : SF p m c code 4 s #[Value.ref b] RL := ⟨hx, hb, hml, hown, fun w h => hts w (wT_lw h)⟩
  refine lv_aload_n hx hb dL_law_1781 rfl (lvA1 hl) ?_
  refine lv_aload_n hx hb dL_law_1782 rfl (lvA0 hl) ?_
  refine lv_iload_n hx hb dL_law_1783 rfl (lvA3 hl) ?_
  refine lv_iconst (v := 1) hx hb dL_law_1784 kic_1 ?_
  refine lv_iadd hx hb dL_law_1785 ?_
  refine lv_topi (fun y_1 ey_1 => ?_)
  obtain rfl : y_1 = nI (i + 1) := ey_1.trans (nI_add i 1)
  refine va_sld hx hb hX hbl hbA hS (vp_in_nI (by omega) (by omega)) dL_law_1786 ?_
  refine lv_topi (fun y_2 ey_2 => ?_)
  obtain rfl : y_2 = xs (nI (i + 1)).toNatClampNeg := ey_2
  refine lv_aload_n hx hb dL_law_1787 rfl (lvA0 hl) ?_
  refine lv_iload_n hx hb dL_law_1788 rfl (lvA3 hl) ?_
  refine lv_iconst (v := 2) hx hb dL_law_1789 kic_2 ?_
  refine lv_iadd hx hb dL_law_1790 ?_
  refine lv_topi (fun y_3 ey_3 => ?_)
  obtain rfl : y_3 = nI (i + 2) := ey_3.trans (nI_add i 2)
  refine va_sld hx hb hX hbl hbA hS (vp_in_nI (by omega) (by omega)) dL_law_1791 ?_
  refine lv_topi (fun y_4 ey_4 => ?_)
  obtain rfl : y_4 = xs (nI (i + 2)).toNatClampNeg := ey_4
  refine vp_callSi (runV_rxa (As := [.int (xs (nI (i + 1)).toNatClampNeg), .int (xs (nI (i + 2)).toNatClampNeg)]) (rest := []) S (q_Xstood l D cI cB cZ zz qq vv bt g ad cn In Fn (xs (nI (i + 1)).toNatClampNeg) (xs (nI (i + 2)).toNatClampNeg) hI.1) kV_RL_198 hK hXS hS (exP hP) 0 xo_0 rfl rfl ⟨Nat.le_of_ble_eq_true rfl, Nat.le_of_ble_eq_true rfl⟩ ⟨(by show K + 0 ≤ 600000; omega), (by show N + 0 ≤ 7302250; omega)⟩ rfl hl.1 rfl (Nat.le_of_ble_eq_true rfl) dL_law_1792) (fun r4 w4 => ?_)
  refine lv_pop hx hb dL_law_1795 rfl ?_
  refine lv_aload_n hx hb dL_law_1796 rfl (lvA2 hl) ?_
  refine lv_aload_n hx hb dL_law_1797 rfl (lvA0 hl) ?_
  refine lv_iload_n hx hb dL_law_1798 rfl (lvA3 hl) ?_
  refine lv_iconst (v := 1) hx hb dL_law_1799 kic_1 ?_
  refine lv_iadd hx hb dL_law_1800 ?_
  refine lv_topi (fun y_6 ey_6 => ?_)
  obtain rfl : y_6 = nI (i + 1) := ey_6.trans (nI_add i 1)
  refine va_sld hx hb hX hbl hbA hS (vp_in_nI (by omega) (by omega)) dL_law_1801 ?_
  refine lv_topi (fun y_7 ey_7 => ?_)
  obtain rfl : y_7 = xs (nI (i + 1)).toNatClampNeg := ey_7
  refine lv_aload_n hx hb dL_law_1802 rfl (lvA0 hl) ?_
  refine lv_iload_n hx hb dL_law_1803 rfl (lvA3 hl) ?_
  refine lv_iconst (v := 2) hx hb dL_law_1804 kic_2 ?_
  refine lv_iadd hx hb dL_law_1805 ?_
  refine lv_topi (fun y_8 ey_8 => ?_)
  obtain rfl : y_8 = nI (i + 2) := ey_8.trans (nI_add i 2)
  refine va_sld hx hb hX hbl hbA hS (vp_in_nI (by omega) (by omega)) dL_law_1806 ?_
  refine lv_topi (fun y_9 ey_9 => ?_)
  obtain rfl : y_9 = xs (nI (i + 2)).toNatClampNeg := ey_9
  refine vp_callSi (runV_ra (As := [.int (xs (nI (i + 1)).toNatClampNeg), .int (xs (nI (i + 2)).toNatClampNeg)]) (rest := []) S (q_stood l D cI cB cZ g2 c3 I3 F3 (xs (nI (i + 1)).toNatClampNeg) (xs (nI (i + 2)).toNatClampNeg) hM.1) kV_RL_201 hK (exPr hP) 0 rfl rfl rfl ⟨Nat.le_of_ble_eq_true rfl, Nat.le_of_ble_eq_true rfl⟩ ⟨(by show K + 0 ≤ 600000; omega), (by show N + 0 ≤ 7302250; omega)⟩ rfl hl.1 rfl (Nat.le_of_ble_eq_true rfl) dL_law_1807) (fun r9 w9 => ?_)
  refine lv_pop hx hb dL_law_1810 rfl ?_
  refine lv_goto (tgt := 2269) hx hb dL_law_1811 rfl ?_
  refine W.widen (k := K + 8) (n := N + 240) (by omega) (by omega) ?_
  exact kk _ _ _ _ _ _ _ _ _ hI hM hR hP hD hS ls hl
set_option maxRecDepth 100000 in
set_option maxHeartbeats 4000000 in
theorem lawc_44 {p : Program} {l : Launch} {e : Env} {s : State} {m : MethodId} {below : List Frame} {meth : Method} {c : Code} {b L : Nat} {xs : Nat → Int32} (C0 : lw_At p s m meth c b L xs) (hLN : L ≤ 3584) {A : Nat → Prop} (hA : ∀ q : Nat, s.heap.size ≤ q → A q) (hbA : ¬ A b) {D : va_G} {cI cB cZ : ClassId} {zz qq vv : Nat} {bt : Nat → Int32} {g g2 : Nat → Nat} (hK : KK D cI cB cZ s) (hXS : XS D zz qq vv bt A s s.heap) {ad : Nat → Nat → Nat} {cn : Nat → Nat} {In : Nat → Int32} {Fn : Nat → Nat → Int32} {c3 : Nat → Nat} {I3 : Nat → Int32} {F3 : Nat → Nat → Int32} (hI : IX ad cn Fn) (hM : IMM c3 F3) (hR : RR cn Fn c3 F3) {H : Heap} {locs : List Loc} (hP : va_P D vwCl (wX cI (D.1 99) zz g ad cn In Fn ++ wM cI cB cZ g2 c3 I3 F3) H) (hD : va_D A (wX cI (D.1 99) zz g ad cn In Fn ++ wM cI cB cZ g2 c3 I3 F3)) (hS : va_S A s.heap H locs) {K N i : Nat} (hi : i + 7 ≤ L) (hKN : K + 8 ≤ 600000 ∧ N + 240 ≤ 7302250) {ls : Array Slot} (hl : lv_has ls 4 [(0, .ref b), (1, .ref (g 0)), (2, .ref (g2 100)), (3, .int (nI i))]) (kk : ∀ (ad : Nat → Nat → Nat) (cn : Nat → Nat) (In : Nat → Int32) (Fn : Nat → Nat → Int32) (c3 : Nat → Nat) (I3 : Nat → Int32) (F3 : Nat → Nat → Int32) (H : Heap) (locs : List Loc), IX ad cn Fn → IMM c3 F3 → RR cn Fn c3 F3 → va_P D vwCl (wX cI (D.1 99) zz g ad cn In Fn ++ wM cI cB cZ g2 c3 I3 F3) H → va_D A (wX cI (D.1 99) zz g ad cn In Fn ++ wM cI cB cZ g2 c3 I3 F3) → va_S A s.heap H locs → ∀ ls : Array Slot, lv_has ls 4 [(0, .ref b), (1, .ref (g 0)), (2, .ref (g2 100)), (3, .int (nI i))] → W p l e room_1 s m #[Value.ref b] below meth c H locs (K + 8) (N + 240) (lw_Z below #[Value.ref b] s) (F0 m 2269 ls [])) : W p l e room_1 s m #[Value.ref b] below meth c H locs K N (lw_Z below #[Value.ref b] s) (F0 m 1814 ls []) := by
  obtain ⟨hx, hb, hr, hml, hown, hts, hX, hbl, hlocks, hgv⟩ := id C0
  have S : SF p m c code 4 s #[Value.ref b] RL := ⟨hx, hb, hml, hown, fun w h => hts w (wT_lw h)⟩
  refine lv_aload_n hx hb dL_law_1814 rfl (lvA1 hl) ?_
  refine lv_aload_n hx hb dL_law_1815 rfl (lvA0 hl) ?_
  refine lv_iload_n hx hb dL_law_1816 rfl (lvA3 hl) ?_
  refine lv_iconst (v := 1) hx hb dL_law_1817 kic_1 ?_
  refine lv_iadd hx hb dL_law_1818 ?_
  refine lv_topi (fun y_1 ey_1 => ?_)
  obtain rfl : y_1 = nI (i + 1) := ey_1.trans (nI_add i 1)
  refine va_sld hx hb hX hbl hbA hS (vp_in_nI (by omega) (by omega)) dL_law_1819 ?_
  refine lv_topi (fun y_2 ey_2 => ?_)
  obtain rfl : y_2 = xs (nI (i + 1)).toNatClampNeg := ey_2
  refine vp_callSi (runV_rxa (As := [.int (xs (nI (i + 1)).toNatClampNeg)]) (rest := []) S (q_Xstale l D cI cB cZ zz qq vv bt g ad cn In Fn (xs (nI (i + 1)).toNatClampNeg) hI.1) kV_RL_202 hK hXS hS (exP hP) 0 xo_0 rfl rfl ⟨Nat.le_of_ble_eq_true rfl, Nat.le_of_ble_eq_true rfl⟩ ⟨(by show K + 0 ≤ 600000; omega), (by show N + 0 ≤ 7302250; omega)⟩ rfl hl.1 rfl (Nat.le_of_ble_eq_true rfl) dL_law_1820) (fun r2 w2 => ?_)
  refine lv_pop hx hb dL_law_1823 rfl ?_
  refine lv_aload_n hx hb dL_law_1824 rfl (lvA2 hl) ?_
  refine lv_aload_n hx hb dL_law_1825 rfl (lvA0 hl) ?_
  refine lv_iload_n hx hb dL_law_1826 rfl (lvA3 hl) ?_
  refine lv_iconst (v := 1) hx hb dL_law_1827 kic_1 ?_
  refine lv_iadd hx hb dL_law_1828 ?_
  refine lv_topi (fun y_4 ey_4 => ?_)
  obtain rfl : y_4 = nI (i + 1) := ey_4.trans (nI_add i 1)
  refine va_sld hx hb hX hbl hbA hS (vp_in_nI (by omega) (by omega)) dL_law_1829 ?_
  refine lv_topi (fun y_5 ey_5 => ?_)
  obtain rfl : y_5 = xs (nI (i + 1)).toNatClampNeg := ey_5
  refine vp_callSi (runV_ra (As := [.int (xs (nI (i + 1)).toNatClampNeg)]) (rest := []) S (q_stale l D cI cB cZ g2 c3 I3 F3 (xs (nI (i + 1)).toNatClampNeg) hM.1) kV_RL_205 hK (exPr hP) 0 rfl rfl rfl ⟨Nat.le_of_ble_eq_true rfl, Nat.le_of_ble_eq_true rfl⟩ ⟨(by show K + 0 ≤ 600000; omega), (by show N + 0 ≤ 7302250; omega)⟩ rfl hl.1 rfl (Nat.le_of_ble_eq_true rfl) dL_law_1830) (fun r5 w5 => ?_)
  refine lv_pop hx hb dL_law_1833 rfl ?_
  refine lv_goto (tgt := 2269) hx hb dL_law_1834 rfl ?_
  refine W.widen (k := K + 8) (n := N + 240) (by omega) (by omega) ?_
  exact kk _ _ _ _ _ _ _ _ _ hI hM hR hP hD hS ls hl
