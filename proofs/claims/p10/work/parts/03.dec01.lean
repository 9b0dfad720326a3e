theorem dL_law_1316 : decode cL_law 1316 = .ok (.iaload, 1) := by decide +kernel
theorem dL_law_1317 : decode cL_law 1317 = .ok (.aload_n 0, 1) := by decide +kernel
theorem dL_law_1318 : decode cL_law 1318 = .ok (.iload_n 3, 1) := by decide +kernel
theorem dL_law_1319 : decode cL_law 1319 = .ok (.iconst 2, 1) := by decide +kernel
theorem dL_law_1320 : decode cL_law 1320 = .ok (.iadd, 1) := by decide +kernel
theorem dL_law_1321 : decode cL_law 1321 = .ok (.iaload, 1) := by decide +kernel
theorem dL_law_1322 : decode cL_law 1322 = .ok (.invokevirtual 193, 3) := by decide +kernel
theorem dL_law_1325 : decode cL_law 1325 = .ok (.pop, 1) := by decide +kernel
theorem dL_law_1326 : decode cL_law 1326 = .ok (.aload_n 2, 1) := by decide +kernel
theorem dL_law_1327 : decode cL_law 1327 = .ok (.aload_n 0, 1) := by decide +kernel
theorem dL_law_1328 : decode cL_law 1328 = .ok (.iload_n 3, 1) := by decide +kernel
theorem dL_law_1329 : decode cL_law 1329 = .ok (.iconst 1, 1) := by decide +kernel
theorem dL_law_1330 : decode cL_law 1330 = .ok (.iadd, 1) := by decide +kernel
theorem dL_law_1331 : decode cL_law 1331 = .ok (.iaload, 1) := by decide +kernel
theorem dL_law_1332 : decode cL_law 1332 = .ok (.aload_n 0, 1) := by decide +kernel
theorem dL_law_1333 : decode cL_law 1333 = .ok (.iload_n 3, 1) := by decide +kernel
theorem dL_law_1334 : decode cL_law 1334 = .ok (.iconst 2, 1) := by decide +kernel
theorem dL_law_1335 : decode cL_law 1335 = .ok (.iadd, 1) := by decide +kernel
theorem dL_law_1336 : decode cL_law 1336 = .ok (.iaload, 1) := by decide +kernel
theorem dL_law_1337 : decode cL_law 1337 = .ok (.invokevirtual 196, 3) := by decide +kernel
theorem dL_law_1340 : decode cL_law 1340 = .ok (.pop, 1) := by decide +kernel
theorem dL_law_1341 : decode cL_law 1341 = .ok (.goto 72, 3) := by decide +kernel
theorem dL_law_1344 : decode cL_law 1344 = .ok (.aload_n 1, 1) := by decide +kernel
theorem dL_law_1345 : decode cL_law 1345 = .ok (.aload_n 0, 1) := by decide +kernel
theorem dL_law_1346 : decode cL_law 1346 = .ok (.iload_n 3, 1) := by decide +kernel
theorem dL_law_1347 : decode cL_law 1347 = .ok (.iconst 1, 1) := by decide +kernel
theorem dL_law_1348 : decode cL_law 1348 = .ok (.iadd, 1) := by decide +kernel
theorem dL_law_1349 : decode cL_law 1349 = .ok (.iaload, 1) := by decide +kernel
theorem dL_law_1350 : decode cL_law 1350 = .ok (.invokevirtual 197, 3) := by decide +kernel
theorem dL_law_1353 : decode cL_law 1353 = .ok (.pop, 1) := by decide +kernel
theorem dL_law_1354 : decode cL_law 1354 = .ok (.aload_n 2, 1) := by decide +kernel
theorem dL_law_1355 : decode cL_law 1355 = .ok (.aload_n 0, 1) := by decide +kernel
theorem dL_law_1356 : decode cL_law 1356 = .ok (.iload_n 3, 1) := by decide +kernel
theorem dL_law_1357 : decode cL_law 1357 = .ok (.iconst 1, 1) := by decide +kernel
theorem dL_law_1358 : decode cL_law 1358 = .ok (.iadd, 1) := by decide +kernel
theorem dL_law_1359 : decode cL_law 1359 = .ok (.iaload, 1) := by decide +kernel
theorem dL_law_1360 : decode cL_law 1360 = .ok (.invokevirtual 200, 3) := by decide +kernel
theorem dL_law_1363 : decode cL_law 1363 = .ok (.pop, 1) := by decide +kernel
theorem dL_law_1364 : decode cL_law 1364 = .ok (.goto 49, 3) := by decide +kernel
theorem dL_law_1367 : decode cL_law 1367 = .ok (.aload_n 1, 1) := by decide +kernel
theorem dL_law_1368 : decode cL_law 1368 = .ok (.aload_n 0, 1) := by decide +kernel
theorem dL_law_1369 : decode cL_law 1369 = .ok (.iload_n 3, 1) := by decide +kernel
theorem dL_law_1370 : decode cL_law 1370 = .ok (.iconst 1, 1) := by decide +kernel
theorem dL_law_1371 : decode cL_law 1371 = .ok (.iadd, 1) := by decide +kernel
theorem dL_law_1372 : decode cL_law 1372 = .ok (.iaload, 1) := by decide +kernel
theorem dL_law_1373 : decode cL_law 1373 = .ok (.invokevirtual 201, 3) := by decide +kernel
theorem dL_law_1376 : decode cL_law 1376 = .ok (.pop, 1) := by decide +kernel
theorem dL_law_1377 : decode cL_law 1377 = .ok (.aload_n 2, 1) := by decide +kernel
theorem dL_law_1378 : decode cL_law 1378 = .ok (.aload_n 0, 1) := by decide +kernel
theorem dL_law_1379 : decode cL_law 1379 = .ok (.iload_n 3, 1) := by decide +kernel
theorem dL_law_1380 : decode cL_law 1380 = .ok (.iconst 1, 1) := by decide +kernel
theorem dL_law_1381 : decode cL_law 1381 = .ok (.iadd, 1) := by decide +kernel
theorem dL_law_1382 : decode cL_law 1382 = .ok (.iaload, 1) := by decide +kernel
theorem dL_law_1383 : decode cL_law 1383 = .ok (.invokevirtual 204, 3) := by decide +kernel
theorem dL_law_1386 : decode cL_law 1386 = .ok (.pop, 1) := by decide +kernel
theorem dL_law_1387 : decode cL_law 1387 = .ok (.goto 26, 3) := by decide +kernel
theorem dL_law_1390 : decode cL_law 1390 = .ok (.aload_n 1, 1) := by decide +kernel
theorem dL_law_1391 : decode cL_law 1391 = .ok (.aload_n 0, 1) := by decide +kernel
theorem dL_law_1392 : decode cL_law 1392 = .ok (.iload_n 3, 1) := by decide +kernel
theorem dL_law_1393 : decode cL_law 1393 = .ok (.iconst 1, 1) := by decide +kernel
theorem dL_law_1394 : decode cL_law 1394 = .ok (.iadd, 1) := by decide +kernel
theorem dL_law_1395 : decode cL_law 1395 = .ok (.iaload, 1) := by decide +kernel
theorem dL_law_1396 : decode cL_law 1396 = .ok (.invokevirtual 205, 3) := by decide +kernel
theorem dL_law_1399 : decode cL_law 1399 = .ok (.pop, 1) := by decide +kernel
theorem dL_law_1400 : decode cL_law 1400 = .ok (.aload_n 2, 1) := by decide +kernel
theorem dL_law_1401 : decode cL_law 1401 = .ok (.aload_n 0, 1) := by decide +kernel
theorem dL_law_1402 : decode cL_law 1402 = .ok (.iload_n 3, 1) := by decide +kernel
theorem dL_law_1403 : decode cL_law 1403 = .ok (.iconst 1, 1) := by decide +kernel
theorem dL_law_1404 : decode cL_law 1404 = .ok (.iadd, 1) := by decide +kernel
theorem dL_law_1405 : decode cL_law 1405 = .ok (.iaload, 1) := by decide +kernel
theorem dL_law_1406 : decode cL_law 1406 = .ok (.invokevirtual 208, 3) := by decide +kernel
theorem dL_law_1409 : decode cL_law 1409 = .ok (.pop, 1) := by decide +kernel
theorem dL_law_1410 : decode cL_law 1410 = .ok (.goto 3, 3) := by decide +kernel
theorem dL_law_1413 : decode cL_law 1413 = .ok (.iinc 3 6, 3) := by decide +kernel
theorem dL_law_1416 : decode cL_law 1416 = .ok (.goto (-1398), 3) := by decide +kernel
theorem dL_law_1419 : decode cL_law 1419 = .ok (.iconst 1, 1) := by decide +kernel
theorem dL_law_1420 : decode cL_law 1420 = .ok (.ireturn, 1) := by decide +kernel
theorem dX0_clear_0 : decode cX0_clear 0 = .ok (.aload_n 0, 1) := by decide +kernel
theorem dX0_clear_1 : decode cX0_clear 1 = .ok (.iconst 0, 1) := by decide +kernel
theorem dX0_clear_2 : decode cX0_clear 2 = .ok (.putfield 29, 3) := by decide +kernel
theorem dX0_clear_5 : decode cX0_clear 5 = .ok (.return_, 1) := by decide +kernel
theorem dX0_firstBest_0 : decode cX0_firstBest 0 = .ok (.iconst 0, 1) := by decide +kernel
theorem dX0_firstBest_1 : decode cX0_firstBest 1 = .ok (.istore_n 3, 1) := by decide +kernel
theorem dX0_firstBest_2 : decode cX0_firstBest 2 = .ok (.iload_n 3, 1) := by decide +kernel
theorem dX0_firstBest_3 : decode cX0_firstBest 3 = .ok (.aload_n 0, 1) := by decide +kernel
theorem dX0_firstBest_4 : decode cX0_firstBest 4 = .ok (.getfield 21, 3) := by decide +kernel
theorem dX0_firstBest_7 : decode cX0_firstBest 7 = .ok (.getfield 66, 3) := by decide +kernel
theorem dX0_firstBest_10 : decode cX0_firstBest 10 = .ok (.if_icmp .ge 32, 3) := by decide +kernel
theorem dX0_firstBest_13 : decode cX0_firstBest 13 = .ok (.aload_n 0, 1) := by decide +kernel
theorem dX0_firstBest_14 : decode cX0_firstBest 14 = .ok (.iload_n 1, 1) := by decide +kernel
theorem dX0_firstBest_15 : decode cX0_firstBest 15 = .ok (.iload_n 3, 1) := by decide +kernel
theorem dX0_firstBest_16 : decode cX0_firstBest 16 = .ok (.iload_n 2, 1) := by decide +kernel
theorem dX0_firstBest_17 : decode cX0_firstBest 17 = .ok (.invokevirtual 78, 3) := by decide +kernel
theorem dX0_firstBest_20 : decode cX0_firstBest 20 = .ok (.aload_n 0, 1) := by decide +kernel
theorem dX0_firstBest_21 : decode cX0_firstBest 21 = .ok (.getfield 15, 3) := by decide +kernel
theorem dX0_firstBest_24 : decode cX0_firstBest 24 = .ok (.iload_n 1, 1) := by decide +kernel
theorem dX0_firstBest_25 : decode cX0_firstBest 25 = .ok (.bipush 64, 2) := by decide +kernel
theorem dX0_firstBest_27 : decode cX0_firstBest 27 = .ok (.imul, 1) := by decide +kernel
theorem dX0_firstBest_28 : decode cX0_firstBest 28 = .ok (.iload_n 2, 1) := by decide +kernel
theorem dX0_firstBest_29 : decode cX0_firstBest 29 = .ok (.iadd, 1) := by decide +kernel
theorem dX0_firstBest_30 : decode cX0_firstBest 30 = .ok (.iaload, 1) := by decide +kernel
theorem dX0_firstBest_31 : decode cX0_firstBest 31 = .ok (.if_icmp .ne 5, 3) := by decide +kernel
theorem dX0_firstBest_34 : decode cX0_firstBest 34 = .ok (.iload_n 3, 1) := by decide +kernel
theorem dX0_firstBest_35 : decode cX0_firstBest 35 = .ok (.ireturn, 1) := by decide +kernel
theorem dX0_firstBest_36 : decode cX0_firstBest 36 = .ok (.iinc 3 1, 3) := by decide +kernel
theorem dX0_firstBest_39 : decode cX0_firstBest 39 = .ok (.goto (-37), 3) := by decide +kernel
theorem dX0_firstBest_42 : decode cX0_firstBest 42 = .ok (.iconst (-1), 1) := by decide +kernel
theorem dX0_firstBest_43 : decode cX0_firstBest 43 = .ok (.ireturn, 1) := by decide +kernel
theorem dX0_illGetting_0 : decode cX0_illGetting 0 = .ok (.iload_n 2, 1) := by decide +kernel
theorem dX0_illGetting_1 : decode cX0_illGetting 1 = .ok (.iload_n 3, 1) := by decide +kernel
theorem dX0_illGetting_2 : decode cX0_illGetting 2 = .ok (.if_icmp .ne 9, 3) := by decide +kernel
theorem dX0_illGetting_5 : decode cX0_illGetting 5 = .ok (.sipush 1000, 3) := by decide +kernel
theorem dX0_illGetting_8 : decode cX0_illGetting 8 = .ok (.goto 12, 3) := by decide +kernel
theorem dX0_illGetting_11 : decode cX0_illGetting 11 = .ok (.aload_n 0, 1) := by decide +kernel
theorem dX0_illGetting_12 : decode cX0_illGetting 12 = .ok (.getfield 25, 3) := by decide +kernel
theorem dX0_illGetting_15 : decode cX0_illGetting 15 = .ok (.iload_n 1, 1) := by decide +kernel
theorem dX0_illGetting_16 : decode cX0_illGetting 16 = .ok (.iload_n 2, 1) := by decide +kernel
theorem dX0_illGetting_17 : decode cX0_illGetting 17 = .ok (.invokevirtual 61, 3) := by decide +kernel
theorem dX0_illGetting_20 : decode cX0_illGetting 20 = .ok (.ireturn, 1) := by decide +kernel
theorem dX0_init_0 : decode cX0_init 0 = .ok (.aload_n 0, 1) := by decide +kernel
theorem dX0_init_1 : decode cX0_init 1 = .ok (.invokespecial 3, 3) := by decide +kernel
theorem dX0_init_4 : decode cX0_init 4 = .ok (.aload_n 0, 1) := by decide +kernel
theorem dX0_init_5 : decode cX0_init 5 = .ok (.bipush 6, 2) := by decide +kernel
theorem dX0_init_7 : decode cX0_init 7 = .ok (.newarray .int, 2) := by decide +kernel
theorem dX0_init_9 : decode cX0_init 9 = .ok (.putfield 9, 3) := by decide +kernel
theorem dX0_init_12 : decode cX0_init 12 = .ok (.aload_n 0, 1) := by decide +kernel
theorem dX0_init_13 : decode cX0_init 13 = .ok (.sipush 448, 3) := by decide +kernel
theorem dX0_init_16 : decode cX0_init 16 = .ok (.newarray .int, 2) := by decide +kernel
theorem dX0_init_18 : decode cX0_init 18 = .ok (.putfield 15, 3) := by decide +kernel
theorem dX0_init_21 : decode cX0_init 21 = .ok (.aload_n 0, 1) := by decide +kernel
theorem dX0_init_22 : decode cX0_init 22 = .ok (.bipush 36, 2) := by decide +kernel
theorem dX0_init_24 : decode cX0_init 24 = .ok (.newarray .int, 2) := by decide +kernel
theorem dX0_init_26 : decode cX0_init 26 = .ok (.putfield 18, 3) := by decide +kernel
theorem dX0_init_29 : decode cX0_init 29 = .ok (.aload_n 0, 1) := by decide +kernel
theorem dX0_init_30 : decode cX0_init 30 = .ok (.aload_n 1, 1) := by decide +kernel
theorem dX0_init_31 : decode cX0_init 31 = .ok (.putfield 21, 3) := by decide +kernel
theorem dX0_init_34 : decode cX0_init 34 = .ok (.aload_n 0, 1) := by decide +kernel
theorem dX0_init_35 : decode cX0_init 35 = .ok (.aload_n 2, 1) := by decide +kernel
theorem dX0_init_36 : decode cX0_init 36 = .ok (.putfield 25, 3) := by decide +kernel
theorem dX0_init_39 : decode cX0_init 39 = .ok (.return_, 1) := by decide +kernel
theorem dX0_isClear_0 : decode cX0_isClear 0 = .ok (.aload_n 0, 1) := by decide +kernel
theorem dX0_isClear_1 : decode cX0_isClear 1 = .ok (.getfield 21, 3) := by decide +kernel
theorem dX0_isClear_4 : decode cX0_isClear 4 = .ok (.iconst 0, 1) := by decide +kernel
theorem dX0_isClear_5 : decode cX0_isClear 5 = .ok (.iload_n 1, 1) := by decide +kernel
theorem dX0_isClear_6 : decode cX0_isClear 6 = .ok (.invokevirtual 94, 3) := by decide +kernel
theorem dX0_isClear_9 : decode cX0_isClear 9 = .ok (.istore_n 3, 1) := by decide +kernel
theorem dX0_isClear_10 : decode cX0_isClear 10 = .ok (.iconst 0, 1) := by decide +kernel
theorem dX0_isClear_11 : decode cX0_isClear 11 = .ok (.istore 4, 2) := by decide +kernel
theorem dX0_isClear_13 : decode cX0_isClear 13 = .ok (.iload 4, 2) := by decide +kernel
theorem dX0_isClear_15 : decode cX0_isClear 15 = .ok (.iload_n 1, 1) := by decide +kernel
theorem dX0_isClear_16 : decode cX0_isClear 16 = .ok (.if_icmp .ge 61, 3) := by decide +kernel
theorem dX0_isClear_19 : decode cX0_isClear 19 = .ok (.iload 4, 2) := by decide +kernel
theorem dX0_isClear_21 : decode cX0_isClear 21 = .ok (.aload_n 0, 1) := by decide +kernel
theorem dX0_isClear_22 : decode cX0_isClear 22 = .ok (.getfield 9, 3) := by decide +kernel
theorem dX0_isClear_25 : decode cX0_isClear 25 = .ok (.arraylength, 1) := by decide +kernel
theorem dX0_isClear_26 : decode cX0_isClear 26 = .ok (.if_icmp .ge 51, 3) := by decide +kernel
theorem dX0_isClear_29 : decode cX0_isClear 29 = .ok (.iload_n 3, 1) := by decide +kernel
theorem dX0_isClear_30 : decode cX0_isClear 30 = .ok (.aload_n 0, 1) := by decide +kernel
theorem dX0_isClear_31 : decode cX0_isClear 31 = .ok (.getfield 21, 3) := by decide +kernel
theorem dX0_isClear_34 : decode cX0_isClear 34 = .ok (.iconst 0, 1) := by decide +kernel
theorem dX0_isClear_35 : decode cX0_isClear 35 = .ok (.iload 4, 2) := by decide +kernel
theorem dX0_isClear_37 : decode cX0_isClear 37 = .ok (.invokevirtual 94, 3) := by decide +kernel
theorem dX0_isClear_40 : decode cX0_isClear 40 = .ok (.isub, 1) := by decide +kernel
theorem dX0_isClear_41 : decode cX0_isClear 41 = .ok (.invokestatic 97, 3) := by decide +kernel
theorem dX0_isClear_44 : decode cX0_isClear 44 = .ok (.istore 5, 2) := by decide +kernel
theorem dX0_isClear_46 : decode cX0_isClear 46 = .ok (.aload_n 0, 1) := by decide +kernel
theorem dX0_isClear_47 : decode cX0_isClear 47 = .ok (.getfield 9, 3) := by decide +kernel
theorem dX0_isClear_50 : decode cX0_isClear 50 = .ok (.iload 4, 2) := by decide +kernel
theorem dX0_isClear_52 : decode cX0_isClear 52 = .ok (.iaload, 1) := by decide +kernel
theorem dX0_isClear_53 : decode cX0_isClear 53 = .ok (.iload_n 2, 1) := by decide +kernel
theorem dX0_isClear_54 : decode cX0_isClear 54 = .ok (.if_icmp .ne 17, 3) := by decide +kernel
theorem dX0_isClear_57 : decode cX0_isClear 57 = .ok (.iload 5, 2) := by decide +kernel
theorem dX0_isClear_59 : decode cX0_isClear 59 = .ok (.aload_n 0, 1) := by decide +kernel
theorem dX0_isClear_60 : decode cX0_isClear 60 = .ok (.getfield 21, 3) := by decide +kernel
theorem dX0_isClear_63 : decode cX0_isClear 63 = .ok (.getfield 101, 3) := by decide +kernel
theorem dX0_isClear_66 : decode cX0_isClear 66 = .ok (.if_icmp .gt 5, 3) := by decide +kernel
theorem dX0_isClear_69 : decode cX0_isClear 69 = .ok (.iconst 0, 1) := by decide +kernel
theorem dX0_isClear_70 : decode cX0_isClear 70 = .ok (.ireturn, 1) := by decide +kernel
theorem dX0_isClear_71 : decode cX0_isClear 71 = .ok (.iinc 4 1, 3) := by decide +kernel
theorem dX0_isClear_74 : decode cX0_isClear 74 = .ok (.goto (-61), 3) := by decide +kernel
theorem dX0_isClear_77 : decode cX0_isClear 77 = .ok (.iconst 1, 1) := by decide +kernel
theorem dX0_isClear_78 : decode cX0_isClear 78 = .ok (.ireturn, 1) := by decide +kernel
theorem dX0_isContent_0 : decode cX0_isContent 0 = .ok (.aload_n 0, 1) := by decide +kernel
theorem dX0_isContent_1 : decode cX0_isContent 1 = .ok (.iload_n 1, 1) := by decide +kernel
theorem dX0_isContent_2 : decode cX0_isContent 2 = .ok (.iload_n 2, 1) := by decide +kernel
theorem dX0_isContent_3 : decode cX0_isContent 3 = .ok (.iload_n 3, 1) := by decide +kernel
theorem dX0_isContent_4 : decode cX0_isContent 4 = .ok (.invokevirtual 115, 3) := by decide +kernel
theorem dX0_isContent_7 : decode cX0_isContent 7 = .ok (.istore 4, 2) := by decide +kernel
theorem dX0_isContent_9 : decode cX0_isContent 9 = .ok (.iconst 0, 1) := by decide +kernel
theorem dX0_isContent_10 : decode cX0_isContent 10 = .ok (.istore 5, 2) := by decide +kernel
theorem dX0_isContent_12 : decode cX0_isContent 12 = .ok (.iload 5, 2) := by decide +kernel
theorem dX0_isContent_14 : decode cX0_isContent 14 = .ok (.aload_n 0, 1) := by decide +kernel
theorem dX0_isContent_15 : decode cX0_isContent 15 = .ok (.getfield 21, 3) := by decide +kernel
theorem dX0_isContent_18 : decode cX0_isContent 18 = .ok (.getfield 66, 3) := by decide +kernel
theorem dX0_isContent_21 : decode cX0_isContent 21 = .ok (.if_icmp .ge 33, 3) := by decide +kernel
theorem dX0_isContent_24 : decode cX0_isContent 24 = .ok (.aload_n 0, 1) := by decide +kernel
theorem dX0_isContent_25 : decode cX0_isContent 25 = .ok (.iload 5, 2) := by decide +kernel
theorem dX0_isContent_27 : decode cX0_isContent 27 = .ok (.invokevirtual 104, 3) := by decide +kernel
theorem dX0_isContent_30 : decode cX0_isContent 30 = .ok (.ifCond .eq 18, 3) := by decide +kernel
theorem dX0_isContent_33 : decode cX0_isContent 33 = .ok (.aload_n 0, 1) := by decide +kernel
theorem dX0_isContent_34 : decode cX0_isContent 34 = .ok (.iload_n 1, 1) := by decide +kernel
theorem dX0_isContent_35 : decode cX0_isContent 35 = .ok (.iload 5, 2) := by decide +kernel
theorem dX0_isContent_37 : decode cX0_isContent 37 = .ok (.iload_n 3, 1) := by decide +kernel
theorem dX0_isContent_38 : decode cX0_isContent 38 = .ok (.invokevirtual 115, 3) := by decide +kernel
theorem dX0_isContent_41 : decode cX0_isContent 41 = .ok (.iload 4, 2) := by decide +kernel
theorem dX0_isContent_43 : decode cX0_isContent 43 = .ok (.if_icmp .ge 5, 3) := by decide +kernel
theorem dX0_isContent_46 : decode cX0_isContent 46 = .ok (.iconst 0, 1) := by decide +kernel
theorem dX0_isContent_47 : decode cX0_isContent 47 = .ok (.ireturn, 1) := by decide +kernel
theorem dX0_isContent_48 : decode cX0_isContent 48 = .ok (.iinc 5 1, 3) := by decide +kernel
theorem dX0_isContent_51 : decode cX0_isContent 51 = .ok (.goto (-39), 3) := by decide +kernel
theorem dX0_isContent_54 : decode cX0_isContent 54 = .ok (.iconst 1, 1) := by decide +kernel
theorem dX0_isContent_55 : decode cX0_isContent 55 = .ok (.ireturn, 1) := by decide +kernel
theorem dX0_isFree_0 : decode cX0_isFree 0 = .ok (.aload_n 0, 1) := by decide +kernel
theorem dX0_isFree_1 : decode cX0_isFree 1 = .ok (.getfield 25, 3) := by decide +kernel
theorem dX0_isFree_4 : decode cX0_isFree 4 = .ok (.iload_n 1, 1) := by decide +kernel
theorem dX0_isFree_5 : decode cX0_isFree 5 = .ok (.invokevirtual 112, 3) := by decide +kernel
theorem dX0_isFree_8 : decode cX0_isFree 8 = .ok (.iconst (-1), 1) := by decide +kernel
theorem dX0_isFree_9 : decode cX0_isFree 9 = .ok (.if_icmp .ne 7, 3) := by decide +kernel
theorem dX0_isFree_12 : decode cX0_isFree 12 = .ok (.iconst 1, 1) := by decide +kernel
theorem dX0_isFree_13 : decode cX0_isFree 13 = .ok (.goto 4, 3) := by decide +kernel
theorem dX0_isFree_16 : decode cX0_isFree 16 = .ok (.iconst 0, 1) := by decide +kernel
theorem dX0_isFree_17 : decode cX0_isFree 17 = .ok (.ireturn, 1) := by decide +kernel
theorem dX0_lay_0 : decode cX0_lay 0 = .ok (.aload_n 0, 1) := by decide +kernel
theorem dX0_lay_1 : decode cX0_lay 1 = .ok (.getfield 29, 3) := by decide +kernel
theorem dX0_lay_4 : decode cX0_lay 4 = .ok (.aload_n 0, 1) := by decide +kernel
theorem dX0_lay_5 : decode cX0_lay 5 = .ok (.getfield 9, 3) := by decide +kernel
theorem dX0_lay_8 : decode cX0_lay 8 = .ok (.arraylength, 1) := by decide +kernel
theorem dX0_lay_9 : decode cX0_lay 9 = .ok (.if_icmp .ge 23, 3) := by decide +kernel
theorem dX0_lay_12 : decode cX0_lay 12 = .ok (.aload_n 0, 1) := by decide +kernel
theorem dX0_lay_13 : decode cX0_lay 13 = .ok (.getfield 9, 3) := by decide +kernel
theorem dX0_lay_16 : decode cX0_lay 16 = .ok (.aload_n 0, 1) := by decide +kernel
theorem dX0_lay_17 : decode cX0_lay 17 = .ok (.getfield 29, 3) := by decide +kernel
theorem dX0_lay_20 : decode cX0_lay 20 = .ok (.iload_n 1, 1) := by decide +kernel
theorem dX0_lay_21 : decode cX0_lay 21 = .ok (.iastore, 1) := by decide +kernel
theorem dX0_lay_22 : decode cX0_lay 22 = .ok (.aload_n 0, 1) := by decide +kernel
theorem dX0_lay_23 : decode cX0_lay 23 = .ok (.dup, 1) := by decide +kernel
theorem dX0_lay_24 : decode cX0_lay 24 = .ok (.getfield 29, 3) := by decide +kernel
theorem dX0_lay_27 : decode cX0_lay 27 = .ok (.iconst 1, 1) := by decide +kernel
theorem dX0_lay_28 : decode cX0_lay 28 = .ok (.iadd, 1) := by decide +kernel
theorem dX0_lay_29 : decode cX0_lay 29 = .ok (.putfield 29, 3) := by decide +kernel
theorem dX0_lay_32 : decode cX0_lay 32 = .ok (.return_, 1) := by decide +kernel
theorem dX0_layColours_0 : decode cX0_layColours 0 = .ok (.aload_n 0, 1) := by decide +kernel
theorem dX0_layColours_1 : decode cX0_layColours 1 = .ok (.invokevirtual 39, 3) := by decide +kernel
theorem dX0_layColours_4 : decode cX0_layColours 4 = .ok (.iconst 0, 1) := by decide +kernel
theorem dX0_layColours_5 : decode cX0_layColours 5 = .ok (.istore_n 1, 1) := by decide +kernel
theorem dX0_layColours_6 : decode cX0_layColours 6 = .ok (.iload_n 1, 1) := by decide +kernel
theorem dX0_layColours_7 : decode cX0_layColours 7 = .ok (.aload_n 0, 1) := by decide +kernel
theorem dX0_layColours_8 : decode cX0_layColours 8 = .ok (.getfield 21, 3) := by decide +kernel
theorem dX0_layColours_11 : decode cX0_layColours 11 = .ok (.getfield 48, 3) := by decide +kernel
theorem dX0_layColours_14 : decode cX0_layColours 14 = .ok (.if_icmp .gt 20, 3) := by decide +kernel
theorem dX0_layColours_17 : decode cX0_layColours 17 = .ok (.aload_n 0, 1) := by decide +kernel
theorem dX0_layColours_18 : decode cX0_layColours 18 = .ok (.iconst 0, 1) := by decide +kernel
theorem dX0_layColours_19 : decode cX0_layColours 19 = .ok (.iload_n 1, 1) := by decide +kernel
theorem dX0_layColours_20 : decode cX0_layColours 20 = .ok (.invokevirtual 87, 3) := by decide +kernel
theorem dX0_layColours_23 : decode cX0_layColours 23 = .ok (.ifCond .eq 5, 3) := by decide +kernel
theorem dX0_layColours_26 : decode cX0_layColours 26 = .ok (.iload_n 1, 1) := by decide +kernel
theorem dX0_layColours_27 : decode cX0_layColours 27 = .ok (.ireturn, 1) := by decide +kernel
theorem dX0_layColours_28 : decode cX0_layColours 28 = .ok (.iinc 1 1, 3) := by decide +kernel
theorem dX0_layColours_31 : decode cX0_layColours 31 = .ok (.goto (-25), 3) := by decide +kernel
theorem dX0_layColours_34 : decode cX0_layColours 34 = .ok (.aload_n 0, 1) := by decide +kernel
theorem dX0_layColours_35 : decode cX0_layColours 35 = .ok (.getfield 21, 3) := by decide +kernel
theorem dX0_layColours_38 : decode cX0_layColours 38 = .ok (.getfield 48, 3) := by decide +kernel
theorem dX0_layColours_41 : decode cX0_layColours 41 = .ok (.ireturn, 1) := by decide +kernel
theorem dX0_layDressing_0 : decode cX0_layDressing 0 = .ok (.aload_n 0, 1) := by decide +kernel
theorem dX0_layDressing_1 : decode cX0_layDressing 1 = .ok (.invokevirtual 33, 3) := by decide +kernel
theorem dX0_layDressing_4 : decode cX0_layDressing 4 = .ok (.aload_n 0, 1) := by decide +kernel
theorem dX0_layDressing_5 : decode cX0_layDressing 5 = .ok (.invokevirtual 36, 3) := by decide +kernel
theorem dX0_layDressing_8 : decode cX0_layDressing 8 = .ok (.aload_n 0, 1) := by decide +kernel
theorem dX0_layDressing_9 : decode cX0_layDressing 9 = .ok (.invokevirtual 39, 3) := by decide +kernel
theorem dX0_layDressing_12 : decode cX0_layDressing 12 = .ok (.aload_n 0, 1) := by decide +kernel
theorem dX0_layDressing_13 : decode cX0_layDressing 13 = .ok (.iconst 0, 1) := by decide +kernel
theorem dX0_layDressing_14 : decode cX0_layDressing 14 = .ok (.putfield 42, 3) := by decide +kernel
theorem dX0_layDressing_17 : decode cX0_layDressing 17 = .ok (.aload_n 0, 1) := by decide +kernel
theorem dX0_layDressing_18 : decode cX0_layDressing 18 = .ok (.iconst 0, 1) := by decide +kernel
theorem dX0_layDressing_19 : decode cX0_layDressing 19 = .ok (.putfield 45, 3) := by decide +kernel
theorem dX0_layDressing_22 : decode cX0_layDressing 22 = .ok (.iconst 0, 1) := by decide +kernel
theorem dX0_layDressing_23 : decode cX0_layDressing 23 = .ok (.istore_n 1, 1) := by decide +kernel
theorem dX0_layDressing_24 : decode cX0_layDressing 24 = .ok (.iconst 0, 1) := by decide +kernel
theorem dX0_layDressing_25 : decode cX0_layDressing 25 = .ok (.istore_n 2, 1) := by decide +kernel
theorem dX0_layDressing_26 : decode cX0_layDressing 26 = .ok (.iload_n 2, 1) := by decide +kernel
theorem dX0_layDressing_27 : decode cX0_layDressing 27 = .ok (.aload_n 0, 1) := by decide +kernel
theorem dX0_layDressing_28 : decode cX0_layDressing 28 = .ok (.getfield 21, 3) := by decide +kernel
theorem dX0_layDressing_31 : decode cX0_layDressing 31 = .ok (.getfield 48, 3) := by decide +kernel
theorem dX0_layDressing_34 : decode cX0_layDressing 34 = .ok (.if_icmp .ge 60, 3) := by decide +kernel
theorem dX0_layDressing_37 : decode cX0_layDressing 37 = .ok (.aload_n 0, 1) := by decide +kernel
theorem dX0_layDressing_38 : decode cX0_layDressing 38 = .ok (.iload_n 2, 1) := by decide +kernel
theorem dX0_layDressing_39 : decode cX0_layDressing 39 = .ok (.iload_n 1, 1) := by decide +kernel
theorem dX0_layDressing_40 : decode cX0_layDressing 40 = .ok (.invokevirtual 53, 3) := by decide +kernel
theorem dX0_layDressing_43 : decode cX0_layDressing 43 = .ok (.istore_n 3, 1) := by decide +kernel
theorem dX0_layDressing_44 : decode cX0_layDressing 44 = .ok (.aload_n 0, 1) := by decide +kernel
theorem dX0_layDressing_45 : decode cX0_layDressing 45 = .ok (.iload_n 3, 1) := by decide +kernel
theorem dX0_layDressing_46 : decode cX0_layDressing 46 = .ok (.invokevirtual 57, 3) := by decide +kernel
theorem dX0_layDressing_49 : decode cX0_layDressing 49 = .ok (.iload_n 3, 1) := by decide +kernel
theorem dX0_layDressing_50 : decode cX0_layDressing 50 = .ok (.iconst (-1), 1) := by decide +kernel
theorem dX0_layDressing_51 : decode cX0_layDressing 51 = .ok (.if_icmp .eq 37, 3) := by decide +kernel
theorem dX0_layDressing_54 : decode cX0_layDressing 54 = .ok (.iload_n 1, 1) := by decide +kernel
theorem dX0_layDressing_55 : decode cX0_layDressing 55 = .ok (.iconst 1, 1) := by decide +kernel
theorem dX0_layDressing_56 : decode cX0_layDressing 56 = .ok (.iload_n 3, 1) := by decide +kernel
theorem dX0_layDressing_57 : decode cX0_layDressing 57 = .ok (.ishl, 1) := by decide +kernel
theorem dX0_layDressing_58 : decode cX0_layDressing 58 = .ok (.ior, 1) := by decide +kernel
theorem dX0_layDressing_59 : decode cX0_layDressing 59 = .ok (.istore_n 1, 1) := by decide +kernel
theorem dX0_layDressing_60 : decode cX0_layDressing 60 = .ok (.aload_n 0, 1) := by decide +kernel
theorem dX0_layDressing_61 : decode cX0_layDressing 61 = .ok (.dup, 1) := by decide +kernel
theorem dX0_layDressing_62 : decode cX0_layDressing 62 = .ok (.getfield 42, 3) := by decide +kernel
theorem dX0_layDressing_65 : decode cX0_layDressing 65 = .ok (.iconst 1, 1) := by decide +kernel
theorem dX0_layDressing_66 : decode cX0_layDressing 66 = .ok (.iadd, 1) := by decide +kernel
theorem dX0_layDressing_67 : decode cX0_layDressing 67 = .ok (.putfield 42, 3) := by decide +kernel
theorem dX0_layDressing_70 : decode cX0_layDressing 70 = .ok (.aload_n 0, 1) := by decide +kernel
theorem dX0_layDressing_71 : decode cX0_layDressing 71 = .ok (.dup, 1) := by decide +kernel
theorem dX0_layDressing_72 : decode cX0_layDressing 72 = .ok (.getfield 45, 3) := by decide +kernel
theorem dX0_layDressing_75 : decode cX0_layDressing 75 = .ok (.aload_n 0, 1) := by decide +kernel
theorem dX0_layDressing_76 : decode cX0_layDressing 76 = .ok (.getfield 25, 3) := by decide +kernel
theorem dX0_layDressing_79 : decode cX0_layDressing 79 = .ok (.iload_n 2, 1) := by decide +kernel
theorem dX0_layDressing_80 : decode cX0_layDressing 80 = .ok (.iload_n 3, 1) := by decide +kernel
theorem dX0_layDressing_81 : decode cX0_layDressing 81 = .ok (.invokevirtual 61, 3) := by decide +kernel
theorem dX0_layDressing_84 : decode cX0_layDressing 84 = .ok (.iadd, 1) := by decide +kernel
theorem dX0_layDressing_85 : decode cX0_layDressing 85 = .ok (.putfield 45, 3) := by decide +kernel
theorem dX0_layDressing_88 : decode cX0_layDressing 88 = .ok (.iinc 2 1, 3) := by decide +kernel
theorem dX0_layDressing_91 : decode cX0_layDressing 91 = .ok (.goto (-65), 3) := by decide +kernel
theorem dX0_layDressing_94 : decode cX0_layDressing 94 = .ok (.return_, 1) := by decide +kernel
theorem dX0_layRest_0 : decode cX0_layRest 0 = .ok (.iconst 0, 1) := by decide +kernel
theorem dX0_layRest_1 : decode cX0_layRest 1 = .ok (.istore_n 3, 1) := by decide +kernel
theorem dX0_layRest_2 : decode cX0_layRest 2 = .ok (.iconst 0, 1) := by decide +kernel
theorem dX0_layRest_3 : decode cX0_layRest 3 = .ok (.istore 4, 2) := by decide +kernel
theorem dX0_layRest_5 : decode cX0_layRest 5 = .ok (.iconst 0, 1) := by decide +kernel
theorem dX0_layRest_6 : decode cX0_layRest 6 = .ok (.istore 5, 2) := by decide +kernel
theorem dX0_layRest_8 : decode cX0_layRest 8 = .ok (.iload 5, 2) := by decide +kernel
theorem dX0_layRest_10 : decode cX0_layRest 10 = .ok (.aload_n 0, 1) := by decide +kernel
theorem dX0_layRest_11 : decode cX0_layRest 11 = .ok (.getfield 21, 3) := by decide +kernel
theorem dX0_layRest_14 : decode cX0_layRest 14 = .ok (.getfield 66, 3) := by decide +kernel
theorem dX0_layRest_17 : decode cX0_layRest 17 = .ok (.if_icmp .ge 111, 3) := by decide +kernel
theorem dX0_layRest_20 : decode cX0_layRest 20 = .ok (.iconst 0, 1) := by decide +kernel
theorem dX0_layRest_21 : decode cX0_layRest 21 = .ok (.istore 6, 2) := by decide +kernel
theorem dX0_layRest_23 : decode cX0_layRest 23 = .ok (.iload 6, 2) := by decide +kernel
theorem dX0_layRest_25 : decode cX0_layRest 25 = .ok (.aload_n 0, 1) := by decide +kernel
theorem dX0_layRest_26 : decode cX0_layRest 26 = .ok (.getfield 21, 3) := by decide +kernel
theorem dX0_layRest_29 : decode cX0_layRest 29 = .ok (.getfield 66, 3) := by decide +kernel
theorem dX0_layRest_32 : decode cX0_layRest 32 = .ok (.if_icmp .ge 90, 3) := by decide +kernel
theorem dX0_layRest_35 : decode cX0_layRest 35 = .ok (.aload_n 0, 1) := by decide +kernel
theorem dX0_layRest_36 : decode cX0_layRest 36 = .ok (.iload 5, 2) := by decide +kernel
theorem dX0_layRest_38 : decode cX0_layRest 38 = .ok (.invokevirtual 104, 3) := by decide +kernel
theorem dX0_layRest_41 : decode cX0_layRest 41 = .ok (.ifCond .eq 16, 3) := by decide +kernel
theorem dX0_layRest_44 : decode cX0_layRest 44 = .ok (.aload_n 0, 1) := by decide +kernel
theorem dX0_layRest_45 : decode cX0_layRest 45 = .ok (.iload 6, 2) := by decide +kernel
theorem dX0_layRest_47 : decode cX0_layRest 47 = .ok (.invokevirtual 104, 3) := by decide +kernel
theorem dX0_layRest_50 : decode cX0_layRest 50 = .ok (.ifCond .eq 7, 3) := by decide +kernel
theorem dX0_layRest_53 : decode cX0_layRest 53 = .ok (.iconst 1, 1) := by decide +kernel
theorem dX0_layRest_54 : decode cX0_layRest 54 = .ok (.goto 4, 3) := by decide +kernel
theorem dX0_layRest_57 : decode cX0_layRest 57 = .ok (.iconst 0, 1) := by decide +kernel
theorem dX0_layRest_58 : decode cX0_layRest 58 = .ok (.istore 7, 2) := by decide +kernel
theorem dX0_layRest_60 : decode cX0_layRest 60 = .ok (.iload 4, 2) := by decide +kernel
theorem dX0_layRest_62 : decode cX0_layRest 62 = .ok (.iload 7, 2) := by decide +kernel
theorem dX0_layRest_64 : decode cX0_layRest 64 = .ok (.ior, 1) := by decide +kernel
theorem dX0_layRest_65 : decode cX0_layRest 65 = .ok (.istore 4, 2) := by decide +kernel
theorem dX0_layRest_67 : decode cX0_layRest 67 = .ok (.iload 7, 2) := by decide +kernel
theorem dX0_layRest_69 : decode cX0_layRest 69 = .ok (.ifCond .eq 47, 3) := by decide +kernel
theorem dX0_layRest_72 : decode cX0_layRest 72 = .ok (.aload_n 0, 1) := by decide +kernel
theorem dX0_layRest_73 : decode cX0_layRest 73 = .ok (.iload_n 1, 1) := by decide +kernel
theorem dX0_layRest_74 : decode cX0_layRest 74 = .ok (.iload 5, 2) := by decide +kernel
theorem dX0_layRest_76 : decode cX0_layRest 76 = .ok (.iload 6, 2) := by decide +kernel
theorem dX0_layRest_78 : decode cX0_layRest 78 = .ok (.invokevirtual 108, 3) := by decide +kernel
theorem dX0_layRest_81 : decode cX0_layRest 81 = .ok (.ifCond .eq 35, 3) := by decide +kernel
theorem dX0_layRest_84 : decode cX0_layRest 84 = .ok (.aload_n 0, 1) := by decide +kernel
theorem dX0_layRest_85 : decode cX0_layRest 85 = .ok (.iload_n 2, 1) := by decide +kernel
theorem dX0_layRest_86 : decode cX0_layRest 86 = .ok (.iload 6, 2) := by decide +kernel
theorem dX0_layRest_88 : decode cX0_layRest 88 = .ok (.iload 5, 2) := by decide +kernel
theorem dX0_layRest_90 : decode cX0_layRest 90 = .ok (.invokevirtual 108, 3) := by decide +kernel
theorem dX0_layRest_93 : decode cX0_layRest 93 = .ok (.ifCond .eq 23, 3) := by decide +kernel
theorem dX0_layRest_96 : decode cX0_layRest 96 = .ok (.iinc 3 1, 3) := by decide +kernel
theorem dX0_layRest_99 : decode cX0_layRest 99 = .ok (.iload_n 3, 1) := by decide +kernel
theorem dX0_layRest_100 : decode cX0_layRest 100 = .ok (.iconst 1, 1) := by decide +kernel
theorem dX0_layRest_101 : decode cX0_layRest 101 = .ok (.if_icmp .ne 15, 3) := by decide +kernel
theorem dX0_layRest_104 : decode cX0_layRest 104 = .ok (.aload_n 0, 1) := by decide +kernel
theorem dX0_layRest_105 : decode cX0_layRest 105 = .ok (.iload 5, 2) := by decide +kernel
theorem dX0_layRest_107 : decode cX0_layRest 107 = .ok (.invokevirtual 57, 3) := by decide +kernel
theorem dX0_layRest_110 : decode cX0_layRest 110 = .ok (.aload_n 0, 1) := by decide +kernel
theorem dX0_layRest_111 : decode cX0_layRest 111 = .ok (.iload 6, 2) := by decide +kernel
theorem dX0_layRest_113 : decode cX0_layRest 113 = .ok (.invokevirtual 57, 3) := by decide +kernel
theorem dX0_layRest_116 : decode cX0_layRest 116 = .ok (.iinc 6 1, 3) := by decide +kernel
theorem dX0_layRest_119 : decode cX0_layRest 119 = .ok (.goto (-96), 3) := by decide +kernel
theorem dX0_layRest_122 : decode cX0_layRest 122 = .ok (.iinc 5 1, 3) := by decide +kernel
theorem dX0_layRest_125 : decode cX0_layRest 125 = .ok (.goto (-117), 3) := by decide +kernel
theorem dX0_layRest_128 : decode cX0_layRest 128 = .ok (.iload 4, 2) := by decide +kernel
theorem dX0_layRest_130 : decode cX0_layRest 130 = .ok (.ifCond .eq 7, 3) := by decide +kernel
theorem dX0_layRest_133 : decode cX0_layRest 133 = .ok (.iload_n 3, 1) := by decide +kernel
theorem dX0_layRest_134 : decode cX0_layRest 134 = .ok (.goto 4, 3) := by decide +kernel
theorem dX0_layRest_137 : decode cX0_layRest 137 = .ok (.iconst (-1), 1) := by decide +kernel
theorem dX0_layRest_138 : decode cX0_layRest 138 = .ok (.ireturn, 1) := by decide +kernel
theorem dX0_lying_0 : decode cX0_lying 0 = .ok (.iload_n 1, 1) := by decide +kernel
theorem dX0_lying_1 : decode cX0_lying 1 = .ok (.ifCond .lt 29, 3) := by decide +kernel
theorem dX0_lying_4 : decode cX0_lying 4 = .ok (.iload_n 1, 1) := by decide +kernel
theorem dX0_lying_5 : decode cX0_lying 5 = .ok (.aload_n 0, 1) := by decide +kernel
theorem dX0_lying_6 : decode cX0_lying 6 = .ok (.getfield 29, 3) := by decide +kernel
theorem dX0_lying_9 : decode cX0_lying 9 = .ok (.if_icmp .ge 21, 3) := by decide +kernel
theorem dX0_lying_12 : decode cX0_lying 12 = .ok (.iload_n 1, 1) := by decide +kernel
theorem dX0_lying_13 : decode cX0_lying 13 = .ok (.aload_n 0, 1) := by decide +kernel
theorem dX0_lying_14 : decode cX0_lying 14 = .ok (.getfield 9, 3) := by decide +kernel
theorem dX0_lying_17 : decode cX0_lying 17 = .ok (.arraylength, 1) := by decide +kernel
theorem dX0_lying_18 : decode cX0_lying 18 = .ok (.if_icmp .ge 12, 3) := by decide +kernel
theorem dX0_lying_21 : decode cX0_lying 21 = .ok (.aload_n 0, 1) := by decide +kernel
theorem dX0_lying_22 : decode cX0_lying 22 = .ok (.getfield 9, 3) := by decide +kernel
theorem dX0_lying_25 : decode cX0_lying 25 = .ok (.iload_n 1, 1) := by decide +kernel
theorem dX0_lying_26 : decode cX0_lying 26 = .ok (.iaload, 1) := by decide +kernel
theorem dX0_lying_27 : decode cX0_lying 27 = .ok (.goto 5, 3) := by decide +kernel
theorem dX0_lying_30 : decode cX0_lying 30 = .ok (.bipush (-2), 2) := by decide +kernel
theorem dX0_lying_32 : decode cX0_lying 32 = .ok (.ireturn, 1) := by decide +kernel
theorem dX0_painted_0 : decode cX0_painted 0 = .ok (.iload_n 1, 1) := by decide +kernel
theorem dX0_painted_1 : decode cX0_painted 1 = .ok (.aload_n 0, 1) := by decide +kernel
theorem dX0_painted_2 : decode cX0_painted 2 = .ok (.getfield 21, 3) := by decide +kernel
theorem dX0_painted_5 : decode cX0_painted 5 = .ok (.getfield 48, 3) := by decide +kernel
theorem dX0_painted_8 : decode cX0_painted 8 = .ok (.if_icmp .ge 9, 3) := by decide +kernel
theorem dX0_painted_11 : decode cX0_painted 11 = .ok (.iload_n 1, 1) := by decide +kernel
theorem dX0_painted_12 : decode cX0_painted 12 = .ok (.bipush 6, 2) := by decide +kernel
theorem dX0_painted_14 : decode cX0_painted 14 = .ok (.if_icmp .lt 5, 3) := by decide +kernel
theorem dX0_painted_17 : decode cX0_painted 17 = .ok (.iconst 1, 1) := by decide +kernel
theorem dX0_painted_18 : decode cX0_painted 18 = .ok (.ireturn, 1) := by decide +kernel
theorem dX0_painted_19 : decode cX0_painted 19 = .ok (.iconst 0, 1) := by decide +kernel
theorem dX0_painted_20 : decode cX0_painted 20 = .ok (.istore_n 3, 1) := by decide +kernel
theorem dX0_painted_21 : decode cX0_painted 21 = .ok (.iload_n 3, 1) := by decide +kernel
theorem dX0_painted_22 : decode cX0_painted 22 = .ok (.iload_n 2, 1) := by decide +kernel
theorem dX0_painted_23 : decode cX0_painted 23 = .ok (.if_icmp .ge 41, 3) := by decide +kernel
theorem dX0_painted_26 : decode cX0_painted 26 = .ok (.aload_n 0, 1) := by decide +kernel
theorem dX0_painted_27 : decode cX0_painted 27 = .ok (.iload_n 1, 1) := by decide +kernel
theorem dX0_painted_28 : decode cX0_painted 28 = .ok (.iload_n 3, 1) := by decide +kernel
theorem dX0_painted_29 : decode cX0_painted 29 = .ok (.invokevirtual 91, 3) := by decide +kernel
theorem dX0_painted_32 : decode cX0_painted 32 = .ok (.ifCond .eq 26, 3) := by decide +kernel
theorem dX0_painted_35 : decode cX0_painted 35 = .ok (.aload_n 0, 1) := by decide +kernel
theorem dX0_painted_36 : decode cX0_painted 36 = .ok (.iload_n 1, 1) := by decide +kernel
theorem dX0_painted_37 : decode cX0_painted 37 = .ok (.putfield 29, 3) := by decide +kernel
theorem dX0_painted_40 : decode cX0_painted 40 = .ok (.aload_n 0, 1) := by decide +kernel
theorem dX0_painted_41 : decode cX0_painted 41 = .ok (.iload_n 3, 1) := by decide +kernel
theorem dX0_painted_42 : decode cX0_painted 42 = .ok (.invokevirtual 57, 3) := by decide +kernel
theorem dX0_painted_45 : decode cX0_painted 45 = .ok (.aload_n 0, 1) := by decide +kernel
theorem dX0_painted_46 : decode cX0_painted 46 = .ok (.iload_n 1, 1) := by decide +kernel
theorem dX0_painted_47 : decode cX0_painted 47 = .ok (.iconst 1, 1) := by decide +kernel
theorem dX0_painted_48 : decode cX0_painted 48 = .ok (.iadd, 1) := by decide +kernel
theorem dX0_painted_49 : decode cX0_painted 49 = .ok (.iload_n 2, 1) := by decide +kernel
theorem dX0_painted_50 : decode cX0_painted 50 = .ok (.invokevirtual 87, 3) := by decide +kernel
theorem dX0_painted_53 : decode cX0_painted 53 = .ok (.ifCond .eq 5, 3) := by decide +kernel
theorem dX0_painted_56 : decode cX0_painted 56 = .ok (.iconst 1, 1) := by decide +kernel
theorem dX0_painted_57 : decode cX0_painted 57 = .ok (.ireturn, 1) := by decide +kernel
theorem dX0_painted_58 : decode cX0_painted 58 = .ok (.iinc 3 1, 3) := by decide +kernel
theorem dX0_painted_61 : decode cX0_painted 61 = .ok (.goto (-40), 3) := by decide +kernel
theorem dX0_painted_64 : decode cX0_painted 64 = .ok (.iconst 0, 1) := by decide +kernel
theorem dX0_painted_65 : decode cX0_painted 65 = .ok (.ireturn, 1) := by decide +kernel
theorem dX0_reckonBest_0 : decode cX0_reckonBest 0 = .ok (.aload_n 0, 1) := by decide +kernel
theorem dX0_reckonBest_1 : decode cX0_reckonBest 1 = .ok (.getfield 15, 3) := by decide +kernel
theorem dX0_reckonBest_4 : decode cX0_reckonBest 4 = .ok (.iconst 0, 1) := by decide +kernel
theorem dX0_reckonBest_5 : decode cX0_reckonBest 5 = .ok (.invokestatic 72, 3) := by decide +kernel
theorem dX0_reckonBest_8 : decode cX0_reckonBest 8 = .ok (.aload_n 0, 1) := by decide +kernel
theorem dX0_reckonBest_9 : decode cX0_reckonBest 9 = .ok (.getfield 21, 3) := by decide +kernel
theorem dX0_reckonBest_12 : decode cX0_reckonBest 12 = .ok (.getfield 48, 3) := by decide +kernel
theorem dX0_reckonBest_15 : decode cX0_reckonBest 15 = .ok (.iconst 1, 1) := by decide +kernel
theorem dX0_reckonBest_16 : decode cX0_reckonBest 16 = .ok (.isub, 1) := by decide +kernel
theorem dX0_reckonBest_17 : decode cX0_reckonBest 17 = .ok (.istore_n 1, 1) := by decide +kernel
theorem dX0_reckonBest_18 : decode cX0_reckonBest 18 = .ok (.iload_n 1, 1) := by decide +kernel
theorem dX0_reckonBest_19 : decode cX0_reckonBest 19 = .ok (.ifCond .lt 83, 3) := by decide +kernel
theorem dX0_reckonBest_22 : decode cX0_reckonBest 22 = .ok (.iconst 0, 1) := by decide +kernel
theorem dX0_reckonBest_23 : decode cX0_reckonBest 23 = .ok (.istore_n 2, 1) := by decide +kernel
theorem dX0_reckonBest_24 : decode cX0_reckonBest 24 = .ok (.iload_n 2, 1) := by decide +kernel
theorem dX0_reckonBest_25 : decode cX0_reckonBest 25 = .ok (.bipush 64, 2) := by decide +kernel
theorem dX0_reckonBest_27 : decode cX0_reckonBest 27 = .ok (.if_icmp .ge 69, 3) := by decide +kernel
theorem dX0_reckonBest_30 : decode cX0_reckonBest 30 = .ok (.aload_n 0, 1) := by decide +kernel
theorem dX0_reckonBest_31 : decode cX0_reckonBest 31 = .ok (.getfield 15, 3) := by decide +kernel
theorem dX0_reckonBest_34 : decode cX0_reckonBest 34 = .ok (.iload_n 1, 1) := by decide +kernel
theorem dX0_reckonBest_35 : decode cX0_reckonBest 35 = .ok (.iconst 1, 1) := by decide +kernel
theorem dX0_reckonBest_36 : decode cX0_reckonBest 36 = .ok (.iadd, 1) := by decide +kernel
theorem dX0_reckonBest_37 : decode cX0_reckonBest 37 = .ok (.bipush 64, 2) := by decide +kernel
theorem dX0_reckonBest_39 : decode cX0_reckonBest 39 = .ok (.imul, 1) := by decide +kernel
theorem dX0_reckonBest_40 : decode cX0_reckonBest 40 = .ok (.iload_n 2, 1) := by decide +kernel
theorem dX0_reckonBest_41 : decode cX0_reckonBest 41 = .ok (.iadd, 1) := by decide +kernel
theorem dX0_reckonBest_42 : decode cX0_reckonBest 42 = .ok (.iaload, 1) := by decide +kernel
theorem dX0_reckonBest_43 : decode cX0_reckonBest 43 = .ok (.istore_n 3, 1) := by decide +kernel
theorem dX0_reckonBest_44 : decode cX0_reckonBest 44 = .ok (.iconst 0, 1) := by decide +kernel
theorem dX0_reckonBest_45 : decode cX0_reckonBest 45 = .ok (.istore 4, 2) := by decide +kernel
theorem dX0_reckonBest_47 : decode cX0_reckonBest 47 = .ok (.iload 4, 2) := by decide +kernel
theorem dX0_reckonBest_49 : decode cX0_reckonBest 49 = .ok (.aload_n 0, 1) := by decide +kernel
theorem dX0_reckonBest_50 : decode cX0_reckonBest 50 = .ok (.getfield 21, 3) := by decide +kernel
theorem dX0_reckonBest_53 : decode cX0_reckonBest 53 = .ok (.getfield 66, 3) := by decide +kernel
theorem dX0_reckonBest_56 : decode cX0_reckonBest 56 = .ok (.if_icmp .ge 22, 3) := by decide +kernel
theorem dX0_reckonBest_59 : decode cX0_reckonBest 59 = .ok (.iload_n 3, 1) := by decide +kernel
theorem dX0_reckonBest_60 : decode cX0_reckonBest 60 = .ok (.aload_n 0, 1) := by decide +kernel
theorem dX0_reckonBest_61 : decode cX0_reckonBest 61 = .ok (.iload_n 1, 1) := by decide +kernel
theorem dX0_reckonBest_62 : decode cX0_reckonBest 62 = .ok (.iload 4, 2) := by decide +kernel
theorem dX0_reckonBest_64 : decode cX0_reckonBest 64 = .ok (.iload_n 2, 1) := by decide +kernel
theorem dX0_reckonBest_65 : decode cX0_reckonBest 65 = .ok (.invokevirtual 78, 3) := by decide +kernel
theorem dX0_reckonBest_68 : decode cX0_reckonBest 68 = .ok (.invokestatic 82, 3) := by decide +kernel
theorem dX0_reckonBest_71 : decode cX0_reckonBest 71 = .ok (.istore_n 3, 1) := by decide +kernel
theorem dX0_reckonBest_72 : decode cX0_reckonBest 72 = .ok (.iinc 4 1, 3) := by decide +kernel
theorem dX0_reckonBest_75 : decode cX0_reckonBest 75 = .ok (.goto (-28), 3) := by decide +kernel
theorem dX0_reckonBest_78 : decode cX0_reckonBest 78 = .ok (.aload_n 0, 1) := by decide +kernel
theorem dX0_reckonBest_79 : decode cX0_reckonBest 79 = .ok (.getfield 15, 3) := by decide +kernel
theorem dX0_reckonBest_82 : decode cX0_reckonBest 82 = .ok (.iload_n 1, 1) := by decide +kernel
theorem dX0_reckonBest_83 : decode cX0_reckonBest 83 = .ok (.bipush 64, 2) := by decide +kernel
theorem dX0_reckonBest_85 : decode cX0_reckonBest 85 = .ok (.imul, 1) := by decide +kernel
theorem dX0_reckonBest_86 : decode cX0_reckonBest 86 = .ok (.iload_n 2, 1) := by decide +kernel
theorem dX0_reckonBest_87 : decode cX0_reckonBest 87 = .ok (.iadd, 1) := by decide +kernel
theorem dX0_reckonBest_88 : decode cX0_reckonBest 88 = .ok (.iload_n 3, 1) := by decide +kernel
theorem dX0_reckonBest_89 : decode cX0_reckonBest 89 = .ok (.iastore, 1) := by decide +kernel
theorem dX0_reckonBest_90 : decode cX0_reckonBest 90 = .ok (.iinc 2 1, 3) := by decide +kernel
theorem dX0_reckonBest_93 : decode cX0_reckonBest 93 = .ok (.goto (-69), 3) := by decide +kernel
theorem dX0_reckonBest_96 : decode cX0_reckonBest 96 = .ok (.iinc 1 (-1), 3) := by decide +kernel
theorem dX0_reckonBest_99 : decode cX0_reckonBest 99 = .ok (.goto (-81), 3) := by decide +kernel
theorem dX0_reckonBest_102 : decode cX0_reckonBest 102 = .ok (.return_, 1) := by decide +kernel
theorem dX0_reckonGains_0 : decode cX0_reckonGains 0 = .ok (.iconst 0, 1) := by decide +kernel
theorem dX0_reckonGains_1 : decode cX0_reckonGains 1 = .ok (.istore_n 1, 1) := by decide +kernel
theorem dX0_reckonGains_2 : decode cX0_reckonGains 2 = .ok (.iload_n 1, 1) := by decide +kernel
theorem dX0_reckonGains_3 : decode cX0_reckonGains 3 = .ok (.aload_n 0, 1) := by decide +kernel
theorem dX0_reckonGains_4 : decode cX0_reckonGains 4 = .ok (.getfield 21, 3) := by decide +kernel
theorem dX0_reckonGains_7 : decode cX0_reckonGains 7 = .ok (.getfield 48, 3) := by decide +kernel
theorem dX0_reckonGains_10 : decode cX0_reckonGains 10 = .ok (.if_icmp .ge 69, 3) := by decide +kernel
theorem dX0_reckonGains_13 : decode cX0_reckonGains 13 = .ok (.iconst 0, 1) := by decide +kernel
theorem dX0_reckonGains_14 : decode cX0_reckonGains 14 = .ok (.istore_n 2, 1) := by decide +kernel
theorem dX0_reckonGains_15 : decode cX0_reckonGains 15 = .ok (.iload_n 2, 1) := by decide +kernel
theorem dX0_reckonGains_16 : decode cX0_reckonGains 16 = .ok (.aload_n 0, 1) := by decide +kernel
theorem dX0_reckonGains_17 : decode cX0_reckonGains 17 = .ok (.getfield 21, 3) := by decide +kernel
theorem dX0_reckonGains_20 : decode cX0_reckonGains 20 = .ok (.getfield 66, 3) := by decide +kernel
theorem dX0_reckonGains_23 : decode cX0_reckonGains 23 = .ok (.if_icmp .ge 50, 3) := by decide +kernel
theorem dX0_reckonGains_26 : decode cX0_reckonGains 26 = .ok (.aload_n 0, 1) := by decide +kernel
theorem dX0_reckonGains_27 : decode cX0_reckonGains 27 = .ok (.getfield 25, 3) := by decide +kernel
theorem dX0_reckonGains_30 : decode cX0_reckonGains 30 = .ok (.iload_n 1, 1) := by decide +kernel
theorem dX0_reckonGains_31 : decode cX0_reckonGains 31 = .ok (.iload_n 2, 1) := by decide +kernel
theorem dX0_reckonGains_32 : decode cX0_reckonGains 32 = .ok (.invokevirtual 61, 3) := by decide +kernel
theorem dX0_reckonGains_35 : decode cX0_reckonGains 35 = .ok (.istore_n 3, 1) := by decide +kernel
theorem dX0_reckonGains_36 : decode cX0_reckonGains 36 = .ok (.aload_n 0, 1) := by decide +kernel
theorem dX0_reckonGains_37 : decode cX0_reckonGains 37 = .ok (.getfield 18, 3) := by decide +kernel
theorem dX0_reckonGains_40 : decode cX0_reckonGains 40 = .ok (.iload_n 1, 1) := by decide +kernel
theorem dX0_reckonGains_41 : decode cX0_reckonGains 41 = .ok (.bipush 6, 2) := by decide +kernel
theorem dX0_reckonGains_43 : decode cX0_reckonGains 43 = .ok (.imul, 1) := by decide +kernel
theorem dX0_reckonGains_44 : decode cX0_reckonGains 44 = .ok (.iload_n 2, 1) := by decide +kernel
theorem dX0_reckonGains_45 : decode cX0_reckonGains 45 = .ok (.iadd, 1) := by decide +kernel
theorem dX0_reckonGains_46 : decode cX0_reckonGains 46 = .ok (.iload_n 3, 1) := by decide +kernel
theorem dX0_reckonGains_47 : decode cX0_reckonGains 47 = .ok (.aload_n 0, 1) := by decide +kernel
theorem dX0_reckonGains_48 : decode cX0_reckonGains 48 = .ok (.getfield 21, 3) := by decide +kernel
theorem dX0_reckonGains_51 : decode cX0_reckonGains 51 = .ok (.getfield 69, 3) := by decide +kernel
theorem dX0_reckonGains_54 : decode cX0_reckonGains 54 = .ok (.if_icmp .gt 11, 3) := by decide +kernel
theorem dX0_reckonGains_57 : decode cX0_reckonGains 57 = .ok (.sipush 10000, 3) := by decide +kernel
theorem dX0_reckonGains_60 : decode cX0_reckonGains 60 = .ok (.iload_n 3, 1) := by decide +kernel
theorem dX0_reckonGains_61 : decode cX0_reckonGains 61 = .ok (.isub, 1) := by decide +kernel
theorem dX0_reckonGains_62 : decode cX0_reckonGains 62 = .ok (.goto 4, 3) := by decide +kernel
theorem dX0_reckonGains_65 : decode cX0_reckonGains 65 = .ok (.iconst (-1), 1) := by decide +kernel
theorem dX0_reckonGains_66 : decode cX0_reckonGains 66 = .ok (.iastore, 1) := by decide +kernel
theorem dX0_reckonGains_67 : decode cX0_reckonGains 67 = .ok (.iinc 2 1, 3) := by decide +kernel
theorem dX0_reckonGains_70 : decode cX0_reckonGains 70 = .ok (.goto (-55), 3) := by decide +kernel
theorem dX0_reckonGains_73 : decode cX0_reckonGains 73 = .ok (.iinc 1 1, 3) := by decide +kernel
theorem dX0_reckonGains_76 : decode cX0_reckonGains 76 = .ok (.goto (-74), 3) := by decide +kernel
theorem dX0_reckonGains_79 : decode cX0_reckonGains 79 = .ok (.return_, 1) := by decide +kernel
theorem dX0_worthOf_0 : decode cX0_worthOf 0 = .ok (.aload_n 0, 1) := by decide +kernel
theorem dX0_worthOf_1 : decode cX0_worthOf 1 = .ok (.getfield 18, 3) := by decide +kernel
theorem dX0_worthOf_4 : decode cX0_worthOf 4 = .ok (.iload_n 1, 1) := by decide +kernel
theorem dX0_worthOf_5 : decode cX0_worthOf 5 = .ok (.bipush 6, 2) := by decide +kernel
theorem dX0_worthOf_7 : decode cX0_worthOf 7 = .ok (.imul, 1) := by decide +kernel
theorem dX0_worthOf_8 : decode cX0_worthOf 8 = .ok (.iload_n 2, 1) := by decide +kernel
theorem dX0_worthOf_9 : decode cX0_worthOf 9 = .ok (.iadd, 1) := by decide +kernel
theorem dX0_worthOf_10 : decode cX0_worthOf 10 = .ok (.iaload, 1) := by decide +kernel
theorem dX0_worthOf_11 : decode cX0_worthOf 11 = .ok (.istore 4, 2) := by decide +kernel
theorem dX0_worthOf_13 : decode cX0_worthOf 13 = .ok (.iload 4, 2) := by decide +kernel
theorem dX0_worthOf_15 : decode cX0_worthOf 15 = .ok (.iconst (-1), 1) := by decide +kernel
theorem dX0_worthOf_16 : decode cX0_worthOf 16 = .ok (.if_icmp .eq 11, 3) := by decide +kernel
theorem dX0_worthOf_19 : decode cX0_worthOf 19 = .ok (.iload_n 3, 1) := by decide +kernel
theorem dX0_worthOf_20 : decode cX0_worthOf 20 = .ok (.iload_n 2, 1) := by decide +kernel
theorem dX0_worthOf_21 : decode cX0_worthOf 21 = .ok (.ishr, 1) := by decide +kernel
theorem dX0_worthOf_22 : decode cX0_worthOf 22 = .ok (.iconst 1, 1) := by decide +kernel
theorem dX0_worthOf_23 : decode cX0_worthOf 23 = .ok (.iand, 1) := by decide +kernel
theorem dX0_worthOf_24 : decode cX0_worthOf 24 = .ok (.ifCond .eq 5, 3) := by decide +kernel
theorem dX0_worthOf_27 : decode cX0_worthOf 27 = .ok (.iconst (-1), 1) := by decide +kernel
theorem dX0_worthOf_28 : decode cX0_worthOf 28 = .ok (.ireturn, 1) := by decide +kernel
theorem dX0_worthOf_29 : decode cX0_worthOf 29 = .ok (.iload 4, 2) := by decide +kernel
theorem dX0_worthOf_31 : decode cX0_worthOf 31 = .ok (.aload_n 0, 1) := by decide +kernel
theorem dX0_worthOf_32 : decode cX0_worthOf 32 = .ok (.getfield 15, 3) := by decide +kernel
theorem dX0_worthOf_35 : decode cX0_worthOf 35 = .ok (.iload_n 1, 1) := by decide +kernel
theorem dX0_worthOf_36 : decode cX0_worthOf 36 = .ok (.iconst 1, 1) := by decide +kernel
theorem dX0_worthOf_37 : decode cX0_worthOf 37 = .ok (.iadd, 1) := by decide +kernel
theorem dX0_worthOf_38 : decode cX0_worthOf 38 = .ok (.bipush 64, 2) := by decide +kernel
theorem dX0_worthOf_40 : decode cX0_worthOf 40 = .ok (.imul, 1) := by decide +kernel
theorem dX0_worthOf_41 : decode cX0_worthOf 41 = .ok (.iload_n 3, 1) := by decide +kernel
theorem dX0_worthOf_42 : decode cX0_worthOf 42 = .ok (.iconst 1, 1) := by decide +kernel
theorem dX0_worthOf_43 : decode cX0_worthOf 43 = .ok (.iload_n 2, 1) := by decide +kernel
theorem dX0_worthOf_44 : decode cX0_worthOf 44 = .ok (.ishl, 1) := by decide +kernel
theorem dX0_worthOf_45 : decode cX0_worthOf 45 = .ok (.ior, 1) := by decide +kernel
theorem dX0_worthOf_46 : decode cX0_worthOf 46 = .ok (.iadd, 1) := by decide +kernel
theorem dX0_worthOf_47 : decode cX0_worthOf 47 = .ok (.iaload, 1) := by decide +kernel
theorem dX0_worthOf_48 : decode cX0_worthOf 48 = .ok (.iadd, 1) := by decide +kernel
theorem dX0_worthOf_49 : decode cX0_worthOf 49 = .ok (.ireturn, 1) := by decide +kernel
theorem dX10_about_0 : decode cX10_about 0 = .ok (.iload_n 1, 1) := by decide +kernel
theorem dX10_about_1 : decode cX10_about 1 = .ok (.tableswitch 183 0 13 #[71, 79, 87, 95, 103, 111, 119, 127, 135, 143, 151, 156, 164, 175], 71) := by decide +kernel
theorem dX10_about_72 : decode cX10_about 72 = .ok (.aload_n 0, 1) := by decide +kernel
theorem dX10_about_73 : decode cX10_about 73 = .ok (.getfield 28, 3) := by decide +kernel
theorem dX10_about_76 : decode cX10_about 76 = .ok (.getfield 111, 3) := by decide +kernel
theorem dX10_about_79 : decode cX10_about 79 = .ok (.ireturn, 1) := by decide +kernel
theorem dX10_about_80 : decode cX10_about 80 = .ok (.aload_n 0, 1) := by decide +kernel
theorem dX10_about_81 : decode cX10_about 81 = .ok (.getfield 28, 3) := by decide +kernel
theorem dX10_about_84 : decode cX10_about 84 = .ok (.getfield 261, 3) := by decide +kernel
theorem dX10_about_87 : decode cX10_about 87 = .ok (.ireturn, 1) := by decide +kernel
theorem dX10_about_88 : decode cX10_about 88 = .ok (.aload_n 0, 1) := by decide +kernel
theorem dX10_about_89 : decode cX10_about 89 = .ok (.getfield 28, 3) := by decide +kernel
theorem dX10_about_92 : decode cX10_about 92 = .ok (.getfield 320, 3) := by decide +kernel
theorem dX10_about_95 : decode cX10_about 95 = .ok (.ireturn, 1) := by decide +kernel
theorem dX10_about_96 : decode cX10_about 96 = .ok (.aload_n 0, 1) := by decide +kernel
theorem dX10_about_97 : decode cX10_about 97 = .ok (.getfield 28, 3) := by decide +kernel
theorem dX10_about_100 : decode cX10_about 100 = .ok (.getfield 323, 3) := by decide +kernel
theorem dX10_about_103 : decode cX10_about 103 = .ok (.ireturn, 1) := by decide +kernel
theorem dX10_about_104 : decode cX10_about 104 = .ok (.aload_n 0, 1) := by decide +kernel
theorem dX10_about_105 : decode cX10_about 105 = .ok (.getfield 28, 3) := by decide +kernel
theorem dX10_about_108 : decode cX10_about 108 = .ok (.getfield 326, 3) := by decide +kernel
theorem dX10_about_111 : decode cX10_about 111 = .ok (.ireturn, 1) := by decide +kernel
theorem dX10_about_112 : decode cX10_about 112 = .ok (.aload_n 0, 1) := by decide +kernel
theorem dX10_about_113 : decode cX10_about 113 = .ok (.getfield 37, 3) := by decide +kernel
theorem dX10_about_116 : decode cX10_about 116 = .ok (.invokevirtual 150, 3) := by decide +kernel
theorem dX10_about_119 : decode cX10_about 119 = .ok (.ireturn, 1) := by decide +kernel
theorem dX10_about_120 : decode cX10_about 120 = .ok (.aload_n 0, 1) := by decide +kernel
theorem dX10_about_121 : decode cX10_about 121 = .ok (.getfield 37, 3) := by decide +kernel
theorem dX10_about_124 : decode cX10_about 124 = .ok (.invokevirtual 329, 3) := by decide +kernel
theorem dX10_about_127 : decode cX10_about 127 = .ok (.ireturn, 1) := by decide +kernel
theorem dX10_about_128 : decode cX10_about 128 = .ok (.aload_n 0, 1) := by decide +kernel
theorem dX10_about_129 : decode cX10_about 129 = .ok (.getfield 46, 3) := by decide +kernel
theorem dX10_about_132 : decode cX10_about 132 = .ok (.getfield 332, 3) := by decide +kernel
theorem dX10_about_135 : decode cX10_about 135 = .ok (.ireturn, 1) := by decide +kernel
theorem dX10_about_136 : decode cX10_about 136 = .ok (.aload_n 0, 1) := by decide +kernel
theorem dX10_about_137 : decode cX10_about 137 = .ok (.getfield 46, 3) := by decide +kernel
theorem dX10_about_140 : decode cX10_about 140 = .ok (.getfield 335, 3) := by decide +kernel
theorem dX10_about_143 : decode cX10_about 143 = .ok (.ireturn, 1) := by decide +kernel
theorem dX10_about_144 : decode cX10_about 144 = .ok (.aload_n 0, 1) := by decide +kernel
theorem dX10_about_145 : decode cX10_about 145 = .ok (.getfield 76, 3) := by decide +kernel
theorem dX10_about_148 : decode cX10_about 148 = .ok (.getfield 338, 3) := by decide +kernel
theorem dX10_about_151 : decode cX10_about 151 = .ok (.ireturn, 1) := by decide +kernel
theorem dX10_about_152 : decode cX10_about 152 = .ok (.aload_n 0, 1) := by decide +kernel
theorem dX10_about_153 : decode cX10_about 153 = .ok (.getfield 288, 3) := by decide +kernel
theorem dX10_about_156 : decode cX10_about 156 = .ok (.ireturn, 1) := by decide +kernel
theorem dX10_about_157 : decode cX10_about 157 = .ok (.aload_n 0, 1) := by decide +kernel
theorem dX10_about_158 : decode cX10_about 158 = .ok (.getfield 10, 3) := by decide +kernel
theorem dX10_about_161 : decode cX10_about 161 = .ok (.getfield 88, 3) := by decide +kernel
theorem dX10_about_164 : decode cX10_about 164 = .ok (.ireturn, 1) := by decide +kernel
theorem dX10_about_165 : decode cX10_about 165 = .ok (.aload_n 0, 1) := by decide +kernel
theorem dX10_about_166 : decode cX10_about 166 = .ok (.getfield 28, 3) := by decide +kernel
theorem dX10_about_169 : decode cX10_about 169 = .ok (.getfield 341, 3) := by decide +kernel
theorem dX10_about_172 : decode cX10_about 172 = .ok (.getfield 345, 3) := by decide +kernel
theorem dX10_about_175 : decode cX10_about 175 = .ok (.ireturn, 1) := by decide +kernel
theorem dX10_about_176 : decode cX10_about 176 = .ok (.aload_n 0, 1) := by decide +kernel
theorem dX10_about_177 : decode cX10_about 177 = .ok (.getfield 69, 3) := by decide +kernel
theorem dX10_about_180 : decode cX10_about 180 = .ok (.getfield 350, 3) := by decide +kernel
theorem dX10_about_183 : decode cX10_about 183 = .ok (.ireturn, 1) := by decide +kernel
theorem dX10_about_184 : decode cX10_about 184 = .ok (.iconst (-1), 1) := by decide +kernel
theorem dX10_about_185 : decode cX10_about 185 = .ok (.ireturn, 1) := by decide +kernel
theorem dX10_ask_0 : decode cX10_ask 0 = .ok (.aload_n 0, 1) := by decide +kernel
theorem dX10_ask_1 : decode cX10_ask 1 = .ok (.getfield 76, 3) := by decide +kernel
theorem dX10_ask_4 : decode cX10_ask 4 = .ok (.iload_n 2, 1) := by decide +kernel
theorem dX10_ask_5 : decode cX10_ask 5 = .ok (.invokevirtual 299, 3) := by decide +kernel
theorem dX10_ask_8 : decode cX10_ask 8 = .ok (.istore_n 3, 1) := by decide +kernel
theorem dX10_ask_9 : decode cX10_ask 9 = .ok (.iload_n 3, 1) := by decide +kernel
theorem dX10_ask_10 : decode cX10_ask 10 = .ok (.ifCond .eq 12, 3) := by decide +kernel
theorem dX10_ask_13 : decode cX10_ask 13 = .ok (.iload_n 1, 1) := by decide +kernel
theorem dX10_ask_14 : decode cX10_ask 14 = .ok (.ifCond .lt 8, 3) := by decide +kernel
theorem dX10_ask_17 : decode cX10_ask 17 = .ok (.iload_n 1, 1) := by decide +kernel
theorem dX10_ask_18 : decode cX10_ask 18 = .ok (.iconst 1, 1) := by decide +kernel
theorem dX10_ask_19 : decode cX10_ask 19 = .ok (.if_icmp .le 5, 3) := by decide +kernel
theorem dX10_ask_22 : decode cX10_ask 22 = .ok (.iconst (-1), 1) := by decide +kernel
theorem dX10_ask_23 : decode cX10_ask 23 = .ok (.ireturn, 1) := by decide +kernel
theorem dX10_ask_24 : decode cX10_ask 24 = .ok (.aload_n 0, 1) := by decide +kernel
theorem dX10_ask_25 : decode cX10_ask 25 = .ok (.getfield 76, 3) := by decide +kernel
theorem dX10_ask_28 : decode cX10_ask 28 = .ok (.iload_n 3, 1) := by decide +kernel
theorem dX10_ask_29 : decode cX10_ask 29 = .ok (.invokevirtual 308, 3) := by decide +kernel
theorem dX10_ask_32 : decode cX10_ask 32 = .ok (.istore 4, 2) := by decide +kernel
theorem dX10_ask_34 : decode cX10_ask 34 = .ok (.iload_n 1, 1) := by decide +kernel
theorem dX10_ask_35 : decode cX10_ask 35 = .ok (.ifCond .ne 8, 3) := by decide +kernel
theorem dX10_ask_38 : decode cX10_ask 38 = .ok (.iload 4, 2) := by decide +kernel
theorem dX10_ask_40 : decode cX10_ask 40 = .ok (.goto 13, 3) := by decide +kernel
theorem dX10_ask_43 : decode cX10_ask 43 = .ok (.aload_n 0, 1) := by decide +kernel
theorem dX10_ask_44 : decode cX10_ask 44 = .ok (.getfield 76, 3) := by decide +kernel
theorem dX10_ask_47 : decode cX10_ask 47 = .ok (.iload_n 3, 1) := by decide +kernel
theorem dX10_ask_48 : decode cX10_ask 48 = .ok (.iload 4, 2) := by decide +kernel
theorem dX10_ask_50 : decode cX10_ask 50 = .ok (.invokevirtual 311, 3) := by decide +kernel
theorem dX10_ask_53 : decode cX10_ask 53 = .ok (.ireturn, 1) := by decide +kernel
theorem dX10_back_0 : decode cX10_back 0 = .ok (.aload_n 0, 1) := by decide +kernel
theorem dX10_back_1 : decode cX10_back 1 = .ok (.getfield 46, 3) := by decide +kernel
theorem dX10_back_4 : decode cX10_back 4 = .ok (.iload_n 1, 1) := by decide +kernel
theorem dX10_back_5 : decode cX10_back 5 = .ok (.invokevirtual 317, 3) := by decide +kernel
theorem dX10_back_8 : decode cX10_back 8 = .ok (.ifCond .eq 13, 3) := by decide +kernel
theorem dX10_back_11 : decode cX10_back 11 = .ok (.aload_n 0, 1) := by decide +kernel
theorem dX10_back_12 : decode cX10_back 12 = .ok (.getfield 37, 3) := by decide +kernel
theorem dX10_back_15 : decode cX10_back 15 = .ok (.invokevirtual 150, 3) := by decide +kernel
theorem dX10_back_18 : decode cX10_back 18 = .ok (.goto 4, 3) := by decide +kernel
theorem dX10_back_21 : decode cX10_back 21 = .ok (.iconst (-1), 1) := by decide +kernel
theorem dX10_back_22 : decode cX10_back 22 = .ok (.ireturn, 1) := by decide +kernel
theorem dX10_breadth_0 : decode cX10_breadth 0 = .ok (.aload_n 0, 1) := by decide +kernel
theorem dX10_breadth_1 : decode cX10_breadth 1 = .ok (.getfield 62, 3) := by decide +kernel
theorem dX10_breadth_4 : decode cX10_breadth 4 = .ok (.aload_n 0, 1) := by decide +kernel
theorem dX10_breadth_5 : decode cX10_breadth 5 = .ok (.getfield 37, 3) := by decide +kernel
theorem dX10_breadth_8 : decode cX10_breadth 8 = .ok (.invokevirtual 273, 3) := by decide +kernel
theorem dX10_breadth_11 : decode cX10_breadth 11 = .ok (.invokevirtual 276, 3) := by decide +kernel
theorem dX10_breadth_14 : decode cX10_breadth 14 = .ok (.ireturn, 1) := by decide +kernel
theorem dX10_buttons_0 : decode cX10_buttons 0 = .ok (.aload_n 0, 1) := by decide +kernel
theorem dX10_buttons_1 : decode cX10_buttons 1 = .ok (.getfield 69, 3) := by decide +kernel
theorem dX10_buttons_4 : decode cX10_buttons 4 = .ok (.invokevirtual 252, 3) := by decide +kernel
theorem dX10_buttons_7 : decode cX10_buttons 7 = .ok (.ireturn, 1) := by decide +kernel
theorem dX10_change_0 : decode cX10_change 0 = .ok (.iload_n 1, 1) := by decide +kernel
theorem dX10_change_1 : decode cX10_change 1 = .ok (.ifCond .lt 18, 3) := by decide +kernel
theorem dX10_change_4 : decode cX10_change 4 = .ok (.iload_n 1, 1) := by decide +kernel
theorem dX10_change_5 : decode cX10_change 5 = .ok (.iconst 2, 1) := by decide +kernel
theorem dX10_change_6 : decode cX10_change 6 = .ok (.if_icmp .gt 13, 3) := by decide +kernel
theorem dX10_change_9 : decode cX10_change 9 = .ok (.aload_n 0, 1) := by decide +kernel
theorem dX10_change_10 : decode cX10_change 10 = .ok (.getfield 55, 3) := by decide +kernel
theorem dX10_change_13 : decode cX10_change 13 = .ok (.invokevirtual 223, 3) := by decide +kernel
theorem dX10_change_16 : decode cX10_change 16 = .ok (.ifCond .ne 5, 3) := by decide +kernel
theorem dX10_change_19 : decode cX10_change 19 = .ok (.iconst (-1), 1) := by decide +kernel
theorem dX10_change_20 : decode cX10_change 20 = .ok (.ireturn, 1) := by decide +kernel
theorem dX10_change_21 : decode cX10_change 21 = .ok (.iload_n 1, 1) := by decide +kernel
theorem dX10_change_22 : decode cX10_change 22 = .ok (.ifCond .ne 11, 3) := by decide +kernel
theorem dX10_change_25 : decode cX10_change 25 = .ok (.aload_n 0, 1) := by decide +kernel
theorem dX10_change_26 : decode cX10_change 26 = .ok (.getfield 55, 3) := by decide +kernel
theorem dX10_change_29 : decode cX10_change 29 = .ok (.getfield 226, 3) := by decide +kernel
theorem dX10_change_32 : decode cX10_change 32 = .ok (.ireturn, 1) := by decide +kernel
theorem dX10_change_33 : decode cX10_change 33 = .ok (.iload_n 1, 1) := by decide +kernel
theorem dX10_change_34 : decode cX10_change 34 = .ok (.iconst 1, 1) := by decide +kernel
theorem dX10_change_35 : decode cX10_change 35 = .ok (.if_icmp .ne 13, 3) := by decide +kernel
theorem dX10_change_38 : decode cX10_change 38 = .ok (.aload_n 0, 1) := by decide +kernel
theorem dX10_change_39 : decode cX10_change 39 = .ok (.getfield 55, 3) := by decide +kernel
theorem dX10_change_42 : decode cX10_change 42 = .ok (.getfield 229, 3) := by decide +kernel
theorem dX10_change_45 : decode cX10_change 45 = .ok (.goto 10, 3) := by decide +kernel
theorem dX10_change_48 : decode cX10_change 48 = .ok (.aload_n 0, 1) := by decide +kernel
theorem dX10_change_49 : decode cX10_change 49 = .ok (.getfield 55, 3) := by decide +kernel
theorem dX10_change_52 : decode cX10_change 52 = .ok (.getfield 232, 3) := by decide +kernel
theorem dX10_change_55 : decode cX10_change 55 = .ok (.ireturn, 1) := by decide +kernel
theorem dX10_cloth_0 : decode cX10_cloth 0 = .ok (.aload_n 0, 1) := by decide +kernel
theorem dX10_cloth_1 : decode cX10_cloth 1 = .ok (.getfield 62, 3) := by decide +kernel
theorem dX10_cloth_4 : decode cX10_cloth 4 = .ok (.invokevirtual 249, 3) := by decide +kernel
theorem dX10_cloth_7 : decode cX10_cloth 7 = .ok (.ireturn, 1) := by decide +kernel
theorem dX10_coat_0 : decode cX10_coat 0 = .ok (.aload_n 0, 1) := by decide +kernel
theorem dX10_coat_1 : decode cX10_coat 1 = .ok (.getfield 28, 3) := by decide +kernel
theorem dX10_coat_4 : decode cX10_coat 4 = .ok (.iload_n 1, 1) := by decide +kernel
theorem dX10_coat_5 : decode cX10_coat 5 = .ok (.invokevirtual 138, 3) := by decide +kernel
theorem dX10_coat_8 : decode cX10_coat 8 = .ok (.ifCond .eq 12, 3) := by decide +kernel
theorem dX10_coat_11 : decode cX10_coat 11 = .ok (.iload_n 2, 1) := by decide +kernel
theorem dX10_coat_12 : decode cX10_coat 12 = .ok (.ifCond .lt 8, 3) := by decide +kernel
theorem dX10_coat_15 : decode cX10_coat 15 = .ok (.iload_n 2, 1) := by decide +kernel
theorem dX10_coat_16 : decode cX10_coat 16 = .ok (.iconst 5, 1) := by decide +kernel
theorem dX10_coat_17 : decode cX10_coat 17 = .ok (.if_icmp .le 6, 3) := by decide +kernel
theorem dX10_coat_20 : decode cX10_coat 20 = .ok (.bipush (-2), 2) := by decide +kernel
theorem dX10_coat_22 : decode cX10_coat 22 = .ok (.ireturn, 1) := by decide +kernel
theorem dX10_coat_23 : decode cX10_coat 23 = .ok (.iload_n 2, 1) := by decide +kernel
theorem dX10_coat_24 : decode cX10_coat 24 = .ok (.iconst 5, 1) := by decide +kernel
theorem dX10_coat_25 : decode cX10_coat 25 = .ok (.if_icmp .ne 14, 3) := by decide +kernel
theorem dX10_coat_28 : decode cX10_coat 28 = .ok (.aload_n 0, 1) := by decide +kernel
theorem dX10_coat_29 : decode cX10_coat 29 = .ok (.getfield 37, 3) := by decide +kernel
theorem dX10_coat_32 : decode cX10_coat 32 = .ok (.iload_n 1, 1) := by decide +kernel
theorem dX10_coat_33 : decode cX10_coat 33 = .ok (.invokevirtual 141, 3) := by decide +kernel
theorem dX10_coat_36 : decode cX10_coat 36 = .ok (.goto 12, 3) := by decide +kernel
theorem dX10_coat_39 : decode cX10_coat 39 = .ok (.aload_n 0, 1) := by decide +kernel
theorem dX10_coat_40 : decode cX10_coat 40 = .ok (.getfield 37, 3) := by decide +kernel
theorem dX10_coat_43 : decode cX10_coat 43 = .ok (.iload_n 2, 1) := by decide +kernel
theorem dX10_coat_44 : decode cX10_coat 44 = .ok (.iload_n 1, 1) := by decide +kernel
theorem dX10_coat_45 : decode cX10_coat 45 = .ok (.invokevirtual 144, 3) := by decide +kernel
theorem dX10_coat_48 : decode cX10_coat 48 = .ok (.ireturn, 1) := by decide +kernel
theorem dX10_commonDivisor_0 : decode cX10_commonDivisor 0 = .ok (.iload_n 0, 1) := by decide +kernel
theorem dX10_commonDivisor_1 : decode cX10_commonDivisor 1 = .ok (.istore_n 2, 1) := by decide +kernel
theorem dX10_commonDivisor_2 : decode cX10_commonDivisor 2 = .ok (.iload_n 1, 1) := by decide +kernel
theorem dX10_commonDivisor_3 : decode cX10_commonDivisor 3 = .ok (.istore_n 3, 1) := by decide +kernel
theorem dX10_commonDivisor_4 : decode cX10_commonDivisor 4 = .ok (.iconst 0, 1) := by decide +kernel
theorem dX10_commonDivisor_5 : decode cX10_commonDivisor 5 = .ok (.istore 4, 2) := by decide +kernel
theorem dX10_commonDivisor_7 : decode cX10_commonDivisor 7 = .ok (.iload 4, 2) := by decide +kernel
theorem dX10_commonDivisor_9 : decode cX10_commonDivisor 9 = .ok (.bipush 100, 2) := by decide +kernel
theorem dX10_commonDivisor_11 : decode cX10_commonDivisor 11 = .ok (.if_icmp .ge 23, 3) := by decide +kernel
theorem dX10_commonDivisor_14 : decode cX10_commonDivisor 14 = .ok (.iload_n 3, 1) := by decide +kernel
theorem dX10_commonDivisor_15 : decode cX10_commonDivisor 15 = .ok (.ifCond .eq 19, 3) := by decide +kernel
theorem dX10_commonDivisor_18 : decode cX10_commonDivisor 18 = .ok (.iload_n 2, 1) := by decide +kernel
theorem dX10_commonDivisor_19 : decode cX10_commonDivisor 19 = .ok (.iload_n 3, 1) := by decide +kernel
theorem dX10_commonDivisor_20 : decode cX10_commonDivisor 20 = .ok (.irem, 1) := by decide +kernel
theorem dX10_commonDivisor_21 : decode cX10_commonDivisor 21 = .ok (.istore 5, 2) := by decide +kernel
theorem dX10_commonDivisor_23 : decode cX10_commonDivisor 23 = .ok (.iload_n 3, 1) := by decide +kernel
theorem dX10_commonDivisor_24 : decode cX10_commonDivisor 24 = .ok (.istore_n 2, 1) := by decide +kernel
theorem dX10_commonDivisor_25 : decode cX10_commonDivisor 25 = .ok (.iload 5, 2) := by decide +kernel
theorem dX10_commonDivisor_27 : decode cX10_commonDivisor 27 = .ok (.istore_n 3, 1) := by decide +kernel
theorem dX10_commonDivisor_28 : decode cX10_commonDivisor 28 = .ok (.iinc 4 1, 3) := by decide +kernel
theorem dX10_commonDivisor_31 : decode cX10_commonDivisor 31 = .ok (.goto (-24), 3) := by decide +kernel
theorem dX10_commonDivisor_34 : decode cX10_commonDivisor 34 = .ok (.iload_n 2, 1) := by decide +kernel
theorem dX10_commonDivisor_35 : decode cX10_commonDivisor 35 = .ok (.ireturn, 1) := by decide +kernel
theorem dX10_day_0 : decode cX10_day 0 = .ok (.aload_n 0, 1) := by decide +kernel
theorem dX10_day_1 : decode cX10_day 1 = .ok (.getfield 37, 3) := by decide +kernel
theorem dX10_day_4 : decode cX10_day 4 = .ok (.invokevirtual 150, 3) := by decide +kernel
theorem dX10_day_7 : decode cX10_day 7 = .ok (.sipush 999, 3) := by decide +kernel
theorem dX10_day_10 : decode cX10_day 10 = .ok (.if_icmp .lt 5, 3) := by decide +kernel
theorem dX10_day_13 : decode cX10_day 13 = .ok (.iconst (-1), 1) := by decide +kernel
theorem dX10_day_14 : decode cX10_day 14 = .ok (.ireturn, 1) := by decide +kernel
theorem dX10_day_15 : decode cX10_day 15 = .ok (.aload_n 0, 1) := by decide +kernel
theorem dX10_day_16 : decode cX10_day 16 = .ok (.getfield 37, 3) := by decide +kernel
theorem dX10_day_19 : decode cX10_day 19 = .ok (.aload_n 0, 1) := by decide +kernel
theorem dX10_day_20 : decode cX10_day 20 = .ok (.getfield 28, 3) := by decide +kernel
theorem dX10_day_23 : decode cX10_day 23 = .ok (.getfield 154, 3) := by decide +kernel
theorem dX10_day_26 : decode cX10_day 26 = .ok (.invokevirtual 157, 3) := by decide +kernel
theorem dX10_day_29 : decode cX10_day 29 = .ok (.istore_n 1, 1) := by decide +kernel
theorem dX10_day_30 : decode cX10_day 30 = .ok (.aload_n 0, 1) := by decide +kernel
theorem dX10_day_31 : decode cX10_day 31 = .ok (.getfield 46, 3) := by decide +kernel
theorem dX10_day_34 : decode cX10_day 34 = .ok (.invokevirtual 160, 3) := by decide +kernel
theorem dX10_day_37 : decode cX10_day 37 = .ok (.iload_n 1, 1) := by decide +kernel
theorem dX10_day_38 : decode cX10_day 38 = .ok (.ireturn, 1) := by decide +kernel
theorem dX10_doff_0 : decode cX10_doff 0 = .ok (.aload_n 0, 1) := by decide +kernel
theorem dX10_doff_1 : decode cX10_doff 1 = .ok (.getfield 37, 3) := by decide +kernel
theorem dX10_doff_4 : decode cX10_doff 4 = .ok (.iload_n 1, 1) := by decide +kernel
theorem dX10_doff_5 : decode cX10_doff 5 = .ok (.invokevirtual 132, 3) := by decide +kernel
theorem dX10_doff_8 : decode cX10_doff 8 = .ok (.istore_n 2, 1) := by decide +kernel
theorem dX10_doff_9 : decode cX10_doff 9 = .ok (.iload_n 2, 1) := by decide +kernel
theorem dX10_doff_10 : decode cX10_doff 10 = .ok (.iconst (-1), 1) := by decide +kernel
theorem dX10_doff_11 : decode cX10_doff 11 = .ok (.if_icmp .ne 5, 3) := by decide +kernel
theorem dX10_doff_14 : decode cX10_doff 14 = .ok (.iconst (-1), 1) := by decide +kernel
theorem dX10_doff_15 : decode cX10_doff 15 = .ok (.ireturn, 1) := by decide +kernel
theorem dX10_doff_16 : decode cX10_doff 16 = .ok (.aload_n 0, 1) := by decide +kernel
theorem dX10_doff_17 : decode cX10_doff 17 = .ok (.getfield 37, 3) := by decide +kernel
theorem dX10_doff_20 : decode cX10_doff 20 = .ok (.iload_n 1, 1) := by decide +kernel
theorem dX10_doff_21 : decode cX10_doff 21 = .ok (.iconst (-1), 1) := by decide +kernel
theorem dX10_doff_22 : decode cX10_doff 22 = .ok (.invokevirtual 163, 3) := by decide +kernel
theorem dX10_doff_25 : decode cX10_doff 25 = .ok (.aload_n 0, 1) := by decide +kernel
theorem dX10_doff_26 : decode cX10_doff 26 = .ok (.getfield 46, 3) := by decide +kernel
theorem dX10_doff_29 : decode cX10_doff 29 = .ok (.invokevirtual 160, 3) := by decide +kernel
theorem dX10_doff_32 : decode cX10_doff 32 = .ok (.iload_n 2, 1) := by decide +kernel
theorem dX10_doff_33 : decode cX10_doff 33 = .ok (.ireturn, 1) := by decide +kernel
theorem dX10_don_0 : decode cX10_don 0 = .ok (.aload_n 0, 1) := by decide +kernel
theorem dX10_don_1 : decode cX10_don 1 = .ok (.getfield 28, 3) := by decide +kernel
theorem dX10_don_4 : decode cX10_don 4 = .ok (.iload_n 1, 1) := by decide +kernel
theorem dX10_don_5 : decode cX10_don 5 = .ok (.invokevirtual 120, 3) := by decide +kernel
theorem dX10_don_8 : decode cX10_don 8 = .ok (.ifCond .eq 26, 3) := by decide +kernel
theorem dX10_don_11 : decode cX10_don 11 = .ok (.aload_n 0, 1) := by decide +kernel
theorem dX10_don_12 : decode cX10_don 12 = .ok (.getfield 28, 3) := by decide +kernel
theorem dX10_don_15 : decode cX10_don 15 = .ok (.iload_n 2, 1) := by decide +kernel
theorem dX10_don_16 : decode cX10_don 16 = .ok (.invokevirtual 138, 3) := by decide +kernel
theorem dX10_don_19 : decode cX10_don 19 = .ok (.ifCond .eq 15, 3) := by decide +kernel
theorem dX10_don_22 : decode cX10_don 22 = .ok (.aload_n 0, 1) := by decide +kernel
theorem dX10_don_23 : decode cX10_don 23 = .ok (.getfield 37, 3) := by decide +kernel
theorem dX10_don_26 : decode cX10_don 26 = .ok (.iload_n 2, 1) := by decide +kernel
theorem dX10_don_27 : decode cX10_don 27 = .ok (.invokevirtual 141, 3) := by decide +kernel
theorem dX10_don_30 : decode cX10_don 30 = .ok (.iconst (-1), 1) := by decide +kernel
theorem dX10_don_31 : decode cX10_don 31 = .ok (.if_icmp .eq 6, 3) := by decide +kernel
theorem dX10_don_34 : decode cX10_don 34 = .ok (.bipush (-2), 2) := by decide +kernel
theorem dX10_don_36 : decode cX10_don 36 = .ok (.ireturn, 1) := by decide +kernel
theorem dX10_don_37 : decode cX10_don 37 = .ok (.aload_n 0, 1) := by decide +kernel
theorem dX10_don_38 : decode cX10_don 38 = .ok (.getfield 37, 3) := by decide +kernel
theorem dX10_don_41 : decode cX10_don 41 = .ok (.iload_n 1, 1) := by decide +kernel
theorem dX10_don_42 : decode cX10_don 42 = .ok (.invokevirtual 132, 3) := by decide +kernel
theorem dX10_don_45 : decode cX10_don 45 = .ok (.istore_n 3, 1) := by decide +kernel
theorem dX10_don_46 : decode cX10_don 46 = .ok (.aload_n 0, 1) := by decide +kernel
theorem dX10_don_47 : decode cX10_don 47 = .ok (.getfield 37, 3) := by decide +kernel
theorem dX10_don_50 : decode cX10_don 50 = .ok (.iload_n 1, 1) := by decide +kernel
theorem dX10_don_51 : decode cX10_don 51 = .ok (.iload_n 2, 1) := by decide +kernel
theorem dX10_don_52 : decode cX10_don 52 = .ok (.invokevirtual 163, 3) := by decide +kernel
theorem dX10_don_55 : decode cX10_don 55 = .ok (.aload_n 0, 1) := by decide +kernel
theorem dX10_don_56 : decode cX10_don 56 = .ok (.getfield 46, 3) := by decide +kernel
theorem dX10_don_59 : decode cX10_don 59 = .ok (.invokevirtual 160, 3) := by decide +kernel
theorem dX10_don_62 : decode cX10_don 62 = .ok (.iload_n 3, 1) := by decide +kernel
theorem dX10_don_63 : decode cX10_don 63 = .ok (.ireturn, 1) := by decide +kernel
theorem dX10_dress_0 : decode cX10_dress 0 = .ok (.aload_n 0, 1) := by decide +kernel
theorem dX10_dress_1 : decode cX10_dress 1 = .ok (.getfield 69, 3) := by decide +kernel
theorem dX10_dress_4 : decode cX10_dress 4 = .ok (.invokevirtual 190, 3) := by decide +kernel
theorem dX10_dress_7 : decode cX10_dress 7 = .ok (.iload_n 1, 1) := by decide +kernel
theorem dX10_dress_8 : decode cX10_dress 8 = .ok (.ifCond .ne 13, 3) := by decide +kernel
theorem dX10_dress_11 : decode cX10_dress 11 = .ok (.aload_n 0, 1) := by decide +kernel
theorem dX10_dress_12 : decode cX10_dress 12 = .ok (.getfield 69, 3) := by decide +kernel
theorem dX10_dress_15 : decode cX10_dress 15 = .ok (.getfield 193, 3) := by decide +kernel
theorem dX10_dress_18 : decode cX10_dress 18 = .ok (.goto 19, 3) := by decide +kernel
theorem dX10_dress_21 : decode cX10_dress 21 = .ok (.iload_n 1, 1) := by decide +kernel
theorem dX10_dress_22 : decode cX10_dress 22 = .ok (.iconst 1, 1) := by decide +kernel
theorem dX10_dress_23 : decode cX10_dress 23 = .ok (.if_icmp .ne 13, 3) := by decide +kernel
theorem dX10_dress_26 : decode cX10_dress 26 = .ok (.aload_n 0, 1) := by decide +kernel
theorem dX10_dress_27 : decode cX10_dress 27 = .ok (.getfield 69, 3) := by decide +kernel
theorem dX10_dress_30 : decode cX10_dress 30 = .ok (.getfield 196, 3) := by decide +kernel
theorem dX10_dress_33 : decode cX10_dress 33 = .ok (.goto 4, 3) := by decide +kernel
theorem dX10_dress_36 : decode cX10_dress 36 = .ok (.iconst (-1), 1) := by decide +kernel
theorem dX10_dress_37 : decode cX10_dress 37 = .ok (.ireturn, 1) := by decide +kernel
theorem dX10_ease_0 : decode cX10_ease 0 = .ok (.aload_n 0, 1) := by decide +kernel
theorem dX10_ease_1 : decode cX10_ease 1 = .ok (.getfield 55, 3) := by decide +kernel
theorem dX10_ease_4 : decode cX10_ease 4 = .ok (.invokevirtual 270, 3) := by decide +kernel
theorem dX10_ease_7 : decode cX10_ease 7 = .ok (.ireturn, 1) := by decide +kernel
theorem dX10_end_0 : decode cX10_end 0 = .ok (.iload_n 1, 1) := by decide +kernel
theorem dX10_end_1 : decode cX10_end 1 = .ok (.ifCond .lt 14, 3) := by decide +kernel
theorem dX10_end_4 : decode cX10_end 4 = .ok (.iload_n 1, 1) := by decide +kernel
theorem dX10_end_5 : decode cX10_end 5 = .ok (.aload_n 0, 1) := by decide +kernel
theorem dX10_end_6 : decode cX10_end 6 = .ok (.getfield 10, 3) := by decide +kernel
theorem dX10_end_9 : decode cX10_end 9 = .ok (.getfield 88, 3) := by decide +kernel
theorem dX10_end_12 : decode cX10_end 12 = .ok (.if_icmp .le 5, 3) := by decide +kernel
theorem dX10_end_15 : decode cX10_end 15 = .ok (.iconst (-1), 1) := by decide +kernel
theorem dX10_end_16 : decode cX10_end 16 = .ok (.ireturn, 1) := by decide +kernel
theorem dX10_end_17 : decode cX10_end 17 = .ok (.aload_n 0, 1) := by decide +kernel
theorem dX10_end_18 : decode cX10_end 18 = .ok (.getfield 10, 3) := by decide +kernel
theorem dX10_end_21 : decode cX10_end 21 = .ok (.iload_n 1, 1) := by decide +kernel
theorem dX10_end_22 : decode cX10_end 22 = .ok (.putfield 88, 3) := by decide +kernel
theorem dX10_end_25 : decode cX10_end 25 = .ok (.iload_n 1, 1) := by decide +kernel
theorem dX10_end_26 : decode cX10_end 26 = .ok (.ireturn, 1) := by decide +kernel
theorem dX10_fault_0 : decode cX10_fault 0 = .ok (.iload_n 1, 1) := by decide +kernel
theorem dX10_fault_1 : decode cX10_fault 1 = .ok (.ifCond .ne 13, 3) := by decide +kernel
theorem dX10_fault_4 : decode cX10_fault 4 = .ok (.aload_n 0, 1) := by decide +kernel
theorem dX10_fault_5 : decode cX10_fault 5 = .ok (.getfield 21, 3) := by decide +kernel
theorem dX10_fault_8 : decode cX10_fault 8 = .ok (.getfield 114, 3) := by decide +kernel
theorem dX10_fault_11 : decode cX10_fault 11 = .ok (.goto 19, 3) := by decide +kernel
theorem dX10_fault_14 : decode cX10_fault 14 = .ok (.iload_n 1, 1) := by decide +kernel
theorem dX10_fault_15 : decode cX10_fault 15 = .ok (.iconst 1, 1) := by decide +kernel
theorem dX10_fault_16 : decode cX10_fault 16 = .ok (.if_icmp .ne 13, 3) := by decide +kernel
theorem dX10_fault_19 : decode cX10_fault 19 = .ok (.aload_n 0, 1) := by decide +kernel
theorem dX10_fault_20 : decode cX10_fault 20 = .ok (.getfield 21, 3) := by decide +kernel
theorem dX10_fault_23 : decode cX10_fault 23 = .ok (.getfield 117, 3) := by decide +kernel
theorem dX10_fault_26 : decode cX10_fault 26 = .ok (.goto 4, 3) := by decide +kernel
theorem dX10_fault_29 : decode cX10_fault 29 = .ok (.iconst (-1), 1) := by decide +kernel
theorem dX10_fault_30 : decode cX10_fault 30 = .ok (.ireturn, 1) := by decide +kernel
theorem dX10_feed_0 : decode cX10_feed 0 = .ok (.aload_n 0, 1) := by decide +kernel
theorem dX10_feed_1 : decode cX10_feed 1 = .ok (.getfield 10, 3) := by decide +kernel
theorem dX10_feed_4 : decode cX10_feed 4 = .ok (.invokevirtual 80, 3) := by decide +kernel
theorem dX10_feed_7 : decode cX10_feed 7 = .ok (.ifCond .ne 5, 3) := by decide +kernel
theorem dX10_feed_10 : decode cX10_feed 10 = .ok (.iconst (-1), 1) := by decide +kernel
theorem dX10_feed_11 : decode cX10_feed 11 = .ok (.ireturn, 1) := by decide +kernel
theorem dX10_feed_12 : decode cX10_feed 12 = .ok (.aload_n 0, 1) := by decide +kernel
theorem dX10_feed_13 : decode cX10_feed 13 = .ok (.getfield 10, 3) := by decide +kernel
theorem dX10_feed_16 : decode cX10_feed 16 = .ok (.iload_n 1, 1) := by decide +kernel
theorem dX10_feed_17 : decode cX10_feed 17 = .ok (.invokevirtual 84, 3) := by decide +kernel
theorem dX10_feed_20 : decode cX10_feed 20 = .ok (.aload_n 0, 1) := by decide +kernel
theorem dX10_feed_21 : decode cX10_feed 21 = .ok (.getfield 10, 3) := by decide +kernel
theorem dX10_feed_24 : decode cX10_feed 24 = .ok (.iload_n 2, 1) := by decide +kernel
theorem dX10_feed_25 : decode cX10_feed 25 = .ok (.invokevirtual 84, 3) := by decide +kernel
theorem dX10_feed_28 : decode cX10_feed 28 = .ok (.aload_n 0, 1) := by decide +kernel
theorem dX10_feed_29 : decode cX10_feed 29 = .ok (.getfield 10, 3) := by decide +kernel
theorem dX10_feed_32 : decode cX10_feed 32 = .ok (.iload_n 3, 1) := by decide +kernel
theorem dX10_feed_33 : decode cX10_feed 33 = .ok (.invokevirtual 84, 3) := by decide +kernel
theorem dX10_feed_36 : decode cX10_feed 36 = .ok (.aload_n 0, 1) := by decide +kernel
theorem dX10_feed_37 : decode cX10_feed 37 = .ok (.getfield 10, 3) := by decide +kernel
theorem dX10_feed_40 : decode cX10_feed 40 = .ok (.iload 4, 2) := by decide +kernel
theorem dX10_feed_42 : decode cX10_feed 42 = .ok (.invokevirtual 84, 3) := by decide +kernel
theorem dX10_feed_45 : decode cX10_feed 45 = .ok (.aload_n 0, 1) := by decide +kernel
theorem dX10_feed_46 : decode cX10_feed 46 = .ok (.getfield 10, 3) := by decide +kernel
theorem dX10_feed_49 : decode cX10_feed 49 = .ok (.iload 5, 2) := by decide +kernel
theorem dX10_feed_51 : decode cX10_feed 51 = .ok (.invokevirtual 84, 3) := by decide +kernel
theorem dX10_feed_54 : decode cX10_feed 54 = .ok (.aload_n 0, 1) := by decide +kernel
theorem dX10_feed_55 : decode cX10_feed 55 = .ok (.getfield 10, 3) := by decide +kernel
theorem dX10_feed_58 : decode cX10_feed 58 = .ok (.getfield 88, 3) := by decide +kernel
theorem dX10_feed_61 : decode cX10_feed 61 = .ok (.ireturn, 1) := by decide +kernel
theorem dX10_fitted_0 : decode cX10_fitted 0 = .ok (.aload_n 0, 1) := by decide +kernel
theorem dX10_fitted_1 : decode cX10_fitted 1 = .ok (.getfield 37, 3) := by decide +kernel
theorem dX10_fitted_4 : decode cX10_fitted 4 = .ok (.invokevirtual 187, 3) := by decide +kernel
theorem dX10_fitted_7 : decode cX10_fitted 7 = .ok (.ireturn, 1) := by decide +kernel
theorem dX10_front_0 : decode cX10_front 0 = .ok (.iload_n 1, 1) := by decide +kernel
theorem dX10_front_1 : decode cX10_front 1 = .ok (.ifCond .lt 19, 3) := by decide +kernel
theorem dX10_front_4 : decode cX10_front 4 = .ok (.iload_n 1, 1) := by decide +kernel
theorem dX10_front_5 : decode cX10_front 5 = .ok (.sipush 999, 3) := by decide +kernel
theorem dX10_front_8 : decode cX10_front 8 = .ok (.if_icmp .gt 12, 3) := by decide +kernel
theorem dX10_front_11 : decode cX10_front 11 = .ok (.iload_n 2, 1) := by decide +kernel
theorem dX10_front_12 : decode cX10_front 12 = .ok (.ifCond .lt 8, 3) := by decide +kernel
theorem dX10_front_15 : decode cX10_front 15 = .ok (.iload_n 2, 1) := by decide +kernel
theorem dX10_front_16 : decode cX10_front 16 = .ok (.iconst 1, 1) := by decide +kernel
theorem dX10_front_17 : decode cX10_front 17 = .ok (.if_icmp .le 5, 3) := by decide +kernel
theorem dX10_front_20 : decode cX10_front 20 = .ok (.iconst (-1), 1) := by decide +kernel
theorem dX10_front_21 : decode cX10_front 21 = .ok (.ireturn, 1) := by decide +kernel
theorem dX10_front_22 : decode cX10_front 22 = .ok (.aload_n 0, 1) := by decide +kernel
theorem dX10_front_23 : decode cX10_front 23 = .ok (.getfield 62, 3) := by decide +kernel
theorem dX10_front_26 : decode cX10_front 26 = .ok (.iload_n 1, 1) := by decide +kernel
theorem dX10_front_27 : decode cX10_front 27 = .ok (.invokevirtual 235, 3) := by decide +kernel
theorem dX10_front_30 : decode cX10_front 30 = .ok (.istore_n 3, 1) := by decide +kernel
theorem dX10_front_31 : decode cX10_front 31 = .ok (.iload_n 2, 1) := by decide +kernel
theorem dX10_front_32 : decode cX10_front 32 = .ok (.iconst 1, 1) := by decide +kernel
theorem dX10_front_33 : decode cX10_front 33 = .ok (.if_icmp .eq 8, 3) := by decide +kernel
theorem dX10_front_36 : decode cX10_front 36 = .ok (.iload_n 3, 1) := by decide +kernel
theorem dX10_front_37 : decode cX10_front 37 = .ok (.iconst (-1), 1) := by decide +kernel
theorem dX10_front_38 : decode cX10_front 38 = .ok (.if_icmp .ne 7, 3) := by decide +kernel
theorem dX10_front_41 : decode cX10_front 41 = .ok (.iload_n 3, 1) := by decide +kernel
theorem dX10_front_42 : decode cX10_front 42 = .ok (.goto 7, 3) := by decide +kernel
theorem dX10_front_45 : decode cX10_front 45 = .ok (.iload_n 3, 1) := by decide +kernel
theorem dX10_front_46 : decode cX10_front 46 = .ok (.invokestatic 238, 3) := by decide +kernel
theorem dX10_front_49 : decode cX10_front 49 = .ok (.ireturn, 1) := by decide +kernel
theorem dX10_growths_0 : decode cX10_growths 0 = .ok (.aload_n 0, 1) := by decide +kernel
theorem dX10_growths_1 : decode cX10_growths 1 = .ok (.getfield 76, 3) := by decide +kernel
theorem dX10_growths_4 : decode cX10_growths 4 = .ok (.iload_n 1, 1) := by decide +kernel
theorem dX10_growths_5 : decode cX10_growths 5 = .ok (.invokevirtual 299, 3) := by decide +kernel
theorem dX10_growths_8 : decode cX10_growths 8 = .ok (.invokestatic 238, 3) := by decide +kernel
theorem dX10_growths_11 : decode cX10_growths 11 = .ok (.ireturn, 1) := by decide +kernel
theorem dX10_hem_0 : decode cX10_hem 0 = .ok (.aload_n 0, 1) := by decide +kernel
theorem dX10_hem_1 : decode cX10_hem 1 = .ok (.getfield 37, 3) := by decide +kernel
theorem dX10_hem_4 : decode cX10_hem 4 = .ok (.iconst 0, 1) := by decide +kernel
theorem dX10_hem_5 : decode cX10_hem 5 = .ok (.iload_n 1, 1) := by decide +kernel
theorem dX10_hem_6 : decode cX10_hem 6 = .ok (.invokevirtual 144, 3) := by decide +kernel
theorem dX10_hem_9 : decode cX10_hem 9 = .ok (.istore_n 3, 1) := by decide +kernel
theorem dX10_hem_10 : decode cX10_hem 10 = .ok (.iload_n 2, 1) := by decide +kernel
theorem dX10_hem_11 : decode cX10_hem 11 = .ok (.iconst 1, 1) := by decide +kernel
theorem dX10_hem_12 : decode cX10_hem 12 = .ok (.if_icmp .lt 8, 3) := by decide +kernel
theorem dX10_hem_15 : decode cX10_hem 15 = .ok (.iload_n 2, 1) := by decide +kernel
theorem dX10_hem_16 : decode cX10_hem 16 = .ok (.iload_n 3, 1) := by decide +kernel
theorem dX10_hem_17 : decode cX10_hem 17 = .ok (.if_icmp .le 5, 3) := by decide +kernel
theorem dX10_hem_20 : decode cX10_hem 20 = .ok (.iconst (-1), 1) := by decide +kernel
theorem dX10_hem_21 : decode cX10_hem 21 = .ok (.ireturn, 1) := by decide +kernel
theorem dX10_hem_22 : decode cX10_hem 22 = .ok (.aload_n 0, 1) := by decide +kernel
theorem dX10_hem_23 : decode cX10_hem 23 = .ok (.getfield 37, 3) := by decide +kernel
theorem dX10_hem_26 : decode cX10_hem 26 = .ok (.iconst 0, 1) := by decide +kernel
theorem dX10_hem_27 : decode cX10_hem 27 = .ok (.iload_n 1, 1) := by decide +kernel
theorem dX10_hem_28 : decode cX10_hem 28 = .ok (.iload_n 3, 1) := by decide +kernel
theorem dX10_hem_29 : decode cX10_hem 29 = .ok (.iload_n 2, 1) := by decide +kernel
theorem dX10_hem_30 : decode cX10_hem 30 = .ok (.isub, 1) := by decide +kernel
theorem dX10_hem_31 : decode cX10_hem 31 = .ok (.invokevirtual 170, 3) := by decide +kernel
theorem dX10_hem_34 : decode cX10_hem 34 = .ok (.aload_n 0, 1) := by decide +kernel
theorem dX10_hem_35 : decode cX10_hem 35 = .ok (.getfield 46, 3) := by decide +kernel
theorem dX10_hem_38 : decode cX10_hem 38 = .ok (.invokevirtual 160, 3) := by decide +kernel
theorem dX10_hem_41 : decode cX10_hem 41 = .ok (.iload_n 3, 1) := by decide +kernel
theorem dX10_hem_42 : decode cX10_hem 42 = .ok (.iload_n 2, 1) := by decide +kernel
theorem dX10_hem_43 : decode cX10_hem 43 = .ok (.isub, 1) := by decide +kernel
theorem dX10_hem_44 : decode cX10_hem 44 = .ok (.ireturn, 1) := by decide +kernel
theorem dX10_image_0 : decode cX10_image 0 = .ok (.aload_n 0, 1) := by decide +kernel
theorem dX10_image_1 : decode cX10_image 1 = .ok (.getfield 46, 3) := by decide +kernel
theorem dX10_image_4 : decode cX10_image 4 = .ok (.iload_n 1, 1) := by decide +kernel
