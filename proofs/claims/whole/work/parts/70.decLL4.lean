theorem d_L_law_1281 : decode c_L_law 1281 = .ok (.istore 5, 2) := by decide +kernel
theorem d_L_law_1283 : decode c_L_law 1283 = .ok (.aload_n 2, 1) := by decide +kernel
theorem d_L_law_1284 : decode c_L_law 1284 = .ok (.aload_n 0, 1) := by decide +kernel
theorem d_L_law_1285 : decode c_L_law 1285 = .ok (.iload 4, 2) := by decide +kernel
theorem d_L_law_1287 : decode c_L_law 1287 = .ok (.iconst 1, 1) := by decide +kernel
theorem d_L_law_1288 : decode c_L_law 1288 = .ok (.iadd, 1) := by decide +kernel
theorem d_L_law_1289 : decode c_L_law 1289 = .ok (.iaload, 1) := by decide +kernel
theorem d_L_law_1290 : decode c_L_law 1290 = .ok (.invokevirtual 142, 3) := by decide +kernel
theorem d_L_law_1293 : decode c_L_law 1293 = .ok (.istore 6, 2) := by decide +kernel
theorem d_L_law_1295 : decode c_L_law 1295 = .ok (.aload_n 2, 1) := by decide +kernel
theorem d_L_law_1296 : decode c_L_law 1296 = .ok (.invokevirtual 89, 3) := by decide +kernel
theorem d_L_law_1299 : decode c_L_law 1299 = .ok (.iload 5, 2) := by decide +kernel
theorem d_L_law_1301 : decode c_L_law 1301 = .ok (.if_icmp .eq 5, 3) := by decide +kernel
theorem d_L_law_1304 : decode c_L_law 1304 = .ok (.iconst 0, 1) := by decide +kernel
theorem d_L_law_1305 : decode c_L_law 1305 = .ok (.ireturn, 1) := by decide +kernel
theorem d_L_law_1306 : decode c_L_law 1306 = .ok (.iload 5, 2) := by decide +kernel
theorem d_L_law_1308 : decode c_L_law 1308 = .ok (.ifCond .ne 15, 3) := by decide +kernel
theorem d_L_law_1311 : decode c_L_law 1311 = .ok (.aload_n 3, 1) := by decide +kernel
theorem d_L_law_1312 : decode c_L_law 1312 = .ok (.iconst 0, 1) := by decide +kernel
theorem d_L_law_1313 : decode c_L_law 1313 = .ok (.laload, 1) := by decide +kernel
theorem d_L_law_1314 : decode c_L_law 1314 = .ok (.iload 6, 2) := by decide +kernel
theorem d_L_law_1316 : decode c_L_law 1316 = .ok (.i2l, 1) := by decide +kernel
theorem d_L_law_1317 : decode c_L_law 1317 = .ok (.lcmp, 1) := by decide +kernel
theorem d_L_law_1318 : decode c_L_law 1318 = .ok (.ifCond .eq 5, 3) := by decide +kernel
theorem d_L_law_1321 : decode c_L_law 1321 = .ok (.iconst 0, 1) := by decide +kernel
theorem d_L_law_1322 : decode c_L_law 1322 = .ok (.ireturn, 1) := by decide +kernel
theorem d_L_law_1323 : decode c_L_law 1323 = .ok (.goto 83, 3) := by decide +kernel
theorem d_L_law_1326 : decode c_L_law 1326 = .ok (.aload_n 1, 1) := by decide +kernel
theorem d_L_law_1327 : decode c_L_law 1327 = .ok (.aload_n 0, 1) := by decide +kernel
theorem d_L_law_1328 : decode c_L_law 1328 = .ok (.iload 4, 2) := by decide +kernel
theorem d_L_law_1330 : decode c_L_law 1330 = .ok (.iconst 1, 1) := by decide +kernel
theorem d_L_law_1331 : decode c_L_law 1331 = .ok (.iadd, 1) := by decide +kernel
theorem d_L_law_1332 : decode c_L_law 1332 = .ok (.iaload, 1) := by decide +kernel
theorem d_L_law_1333 : decode c_L_law 1333 = .ok (.aload_n 0, 1) := by decide +kernel
theorem d_L_law_1334 : decode c_L_law 1334 = .ok (.iload 4, 2) := by decide +kernel
theorem d_L_law_1336 : decode c_L_law 1336 = .ok (.iconst 2, 1) := by decide +kernel
theorem d_L_law_1337 : decode c_L_law 1337 = .ok (.iadd, 1) := by decide +kernel
theorem d_L_law_1338 : decode c_L_law 1338 = .ok (.iaload, 1) := by decide +kernel
theorem d_L_law_1339 : decode c_L_law 1339 = .ok (.aload_n 0, 1) := by decide +kernel
theorem d_L_law_1340 : decode c_L_law 1340 = .ok (.iload 4, 2) := by decide +kernel
theorem d_L_law_1342 : decode c_L_law 1342 = .ok (.iconst 3, 1) := by decide +kernel
theorem d_L_law_1343 : decode c_L_law 1343 = .ok (.iadd, 1) := by decide +kernel
theorem d_L_law_1344 : decode c_L_law 1344 = .ok (.iaload, 1) := by decide +kernel
theorem d_L_law_1345 : decode c_L_law 1345 = .ok (.aload_n 3, 1) := by decide +kernel
theorem d_L_law_1346 : decode c_L_law 1346 = .ok (.invokestatic 143, 3) := by decide +kernel
theorem d_L_law_1349 : decode c_L_law 1349 = .ok (.istore 5, 2) := by decide +kernel
theorem d_L_law_1351 : decode c_L_law 1351 = .ok (.aload_n 2, 1) := by decide +kernel
theorem d_L_law_1352 : decode c_L_law 1352 = .ok (.aload_n 0, 1) := by decide +kernel
theorem d_L_law_1353 : decode c_L_law 1353 = .ok (.iload 4, 2) := by decide +kernel
theorem d_L_law_1355 : decode c_L_law 1355 = .ok (.iconst 1, 1) := by decide +kernel
theorem d_L_law_1356 : decode c_L_law 1356 = .ok (.iadd, 1) := by decide +kernel
theorem d_L_law_1357 : decode c_L_law 1357 = .ok (.iaload, 1) := by decide +kernel
theorem d_L_law_1358 : decode c_L_law 1358 = .ok (.aload_n 0, 1) := by decide +kernel
theorem d_L_law_1359 : decode c_L_law 1359 = .ok (.iload 4, 2) := by decide +kernel
theorem d_L_law_1361 : decode c_L_law 1361 = .ok (.iconst 2, 1) := by decide +kernel
theorem d_L_law_1362 : decode c_L_law 1362 = .ok (.iadd, 1) := by decide +kernel
theorem d_L_law_1363 : decode c_L_law 1363 = .ok (.iaload, 1) := by decide +kernel
theorem d_L_law_1364 : decode c_L_law 1364 = .ok (.aload_n 0, 1) := by decide +kernel
theorem d_L_law_1365 : decode c_L_law 1365 = .ok (.iload 4, 2) := by decide +kernel
theorem d_L_law_1367 : decode c_L_law 1367 = .ok (.iconst 3, 1) := by decide +kernel
theorem d_L_law_1368 : decode c_L_law 1368 = .ok (.iadd, 1) := by decide +kernel
theorem d_L_law_1369 : decode c_L_law 1369 = .ok (.iaload, 1) := by decide +kernel
theorem d_L_law_1370 : decode c_L_law 1370 = .ok (.invokevirtual 146, 3) := by decide +kernel
theorem d_L_law_1373 : decode c_L_law 1373 = .ok (.istore 6, 2) := by decide +kernel
theorem d_L_law_1375 : decode c_L_law 1375 = .ok (.aload_n 2, 1) := by decide +kernel
theorem d_L_law_1376 : decode c_L_law 1376 = .ok (.invokevirtual 89, 3) := by decide +kernel
theorem d_L_law_1379 : decode c_L_law 1379 = .ok (.iload 5, 2) := by decide +kernel
theorem d_L_law_1381 : decode c_L_law 1381 = .ok (.if_icmp .eq 5, 3) := by decide +kernel
theorem d_L_law_1384 : decode c_L_law 1384 = .ok (.iconst 0, 1) := by decide +kernel
theorem d_L_law_1385 : decode c_L_law 1385 = .ok (.ireturn, 1) := by decide +kernel
theorem d_L_law_1386 : decode c_L_law 1386 = .ok (.iload 5, 2) := by decide +kernel
theorem d_L_law_1388 : decode c_L_law 1388 = .ok (.ifCond .ne 15, 3) := by decide +kernel
theorem d_L_law_1391 : decode c_L_law 1391 = .ok (.aload_n 3, 1) := by decide +kernel
theorem d_L_law_1392 : decode c_L_law 1392 = .ok (.iconst 0, 1) := by decide +kernel
theorem d_L_law_1393 : decode c_L_law 1393 = .ok (.laload, 1) := by decide +kernel
theorem d_L_law_1394 : decode c_L_law 1394 = .ok (.iload 6, 2) := by decide +kernel
theorem d_L_law_1396 : decode c_L_law 1396 = .ok (.i2l, 1) := by decide +kernel
theorem d_L_law_1397 : decode c_L_law 1397 = .ok (.lcmp, 1) := by decide +kernel
theorem d_L_law_1398 : decode c_L_law 1398 = .ok (.ifCond .eq 5, 3) := by decide +kernel
theorem d_L_law_1401 : decode c_L_law 1401 = .ok (.iconst 0, 1) := by decide +kernel
theorem d_L_law_1402 : decode c_L_law 1402 = .ok (.ireturn, 1) := by decide +kernel
theorem d_L_law_1403 : decode c_L_law 1403 = .ok (.goto 3, 3) := by decide +kernel
theorem d_L_law_1406 : decode c_L_law 1406 = .ok (.iinc 4 5, 3) := by decide +kernel
theorem d_L_law_1409 : decode c_L_law 1409 = .ok (.goto (-1386), 3) := by decide +kernel
theorem d_L_law_1412 : decode c_L_law 1412 = .ok (.iconst 1, 1) := by decide +kernel
theorem d_L_law_1413 : decode c_L_law 1413 = .ok (.ireturn, 1) := by decide +kernel
