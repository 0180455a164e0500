section LAW5614
theorem dL_1361 : decode code 1361 = .ok (.iaload, 1) := by decide +kernel
theorem dL_1362 : decode code 1362 = .ok (.aload_n 0, 1) := by decide +kernel
theorem dL_1363 : decode code 1363 = .ok (.iload 4, 2) := by decide +kernel
theorem dL_1365 : decode code 1365 = .ok (.iconst 3, 1) := by decide +kernel
theorem dL_1366 : decode code 1366 = .ok (.iadd, 1) := by decide +kernel
theorem dL_1367 : decode code 1367 = .ok (.iaload, 1) := by decide +kernel
theorem dL_1368 : decode code 1368 = .ok (.aload_n 3, 1) := by decide +kernel
theorem dL_1369 : decode code 1369 = .ok (.invokestatic 153, 3) := by decide +kernel
theorem dL_1372 : decode code 1372 = .ok (.istore 5, 2) := by decide +kernel
theorem dL_1374 : decode code 1374 = .ok (.aload_n 2, 1) := by decide +kernel
theorem dL_1375 : decode code 1375 = .ok (.aload_n 0, 1) := by decide +kernel
theorem dL_1376 : decode code 1376 = .ok (.iload 4, 2) := by decide +kernel
theorem dL_1378 : decode code 1378 = .ok (.iconst 1, 1) := by decide +kernel
theorem dL_1379 : decode code 1379 = .ok (.iadd, 1) := by decide +kernel
theorem dL_1380 : decode code 1380 = .ok (.iaload, 1) := by decide +kernel
theorem dL_1381 : decode code 1381 = .ok (.aload_n 0, 1) := by decide +kernel
theorem dL_1382 : decode code 1382 = .ok (.iload 4, 2) := by decide +kernel
theorem dL_1384 : decode code 1384 = .ok (.iconst 2, 1) := by decide +kernel
theorem dL_1385 : decode code 1385 = .ok (.iadd, 1) := by decide +kernel
theorem dL_1386 : decode code 1386 = .ok (.iaload, 1) := by decide +kernel
theorem dL_1387 : decode code 1387 = .ok (.aload_n 0, 1) := by decide +kernel
theorem dL_1388 : decode code 1388 = .ok (.iload 4, 2) := by decide +kernel
theorem dL_1390 : decode code 1390 = .ok (.iconst 3, 1) := by decide +kernel
theorem dL_1391 : decode code 1391 = .ok (.iadd, 1) := by decide +kernel
theorem dL_1392 : decode code 1392 = .ok (.iaload, 1) := by decide +kernel
theorem dL_1393 : decode code 1393 = .ok (.invokevirtual 155, 3) := by decide +kernel
theorem dL_1396 : decode code 1396 = .ok (.istore 6, 2) := by decide +kernel
theorem dL_1398 : decode code 1398 = .ok (.aload_n 2, 1) := by decide +kernel
theorem dL_1399 : decode code 1399 = .ok (.invokevirtual 96, 3) := by decide +kernel
theorem dL_1402 : decode code 1402 = .ok (.iload 5, 2) := by decide +kernel
theorem dL_1404 : decode code 1404 = .ok (.if_icmp .eq 5, 3) := by decide +kernel
theorem dL_1407 : decode code 1407 = .ok (.iconst 0, 1) := by decide +kernel
theorem dL_1408 : decode code 1408 = .ok (.ireturn, 1) := by decide +kernel
theorem dL_1409 : decode code 1409 = .ok (.iload 5, 2) := by decide +kernel
theorem dL_1411 : decode code 1411 = .ok (.ifCond .ne 15, 3) := by decide +kernel
theorem dL_1414 : decode code 1414 = .ok (.aload_n 3, 1) := by decide +kernel
theorem dL_1415 : decode code 1415 = .ok (.iconst 0, 1) := by decide +kernel
theorem dL_1416 : decode code 1416 = .ok (.laload, 1) := by decide +kernel
theorem dL_1417 : decode code 1417 = .ok (.iload 6, 2) := by decide +kernel
theorem dL_1419 : decode code 1419 = .ok (.i2l, 1) := by decide +kernel
theorem dL_1420 : decode code 1420 = .ok (.lcmp, 1) := by decide +kernel
theorem dL_1421 : decode code 1421 = .ok (.ifCond .eq 5, 3) := by decide +kernel
theorem dL_1424 : decode code 1424 = .ok (.iconst 0, 1) := by decide +kernel
theorem dL_1425 : decode code 1425 = .ok (.ireturn, 1) := by decide +kernel
theorem dL_1426 : decode code 1426 = .ok (.goto 319, 3) := by decide +kernel
theorem dL_1429 : decode code 1429 = .ok (.aload_n 1, 1) := by decide +kernel
theorem dL_1430 : decode code 1430 = .ok (.aload_n 0, 1) := by decide +kernel
theorem dL_1431 : decode code 1431 = .ok (.iload 4, 2) := by decide +kernel
theorem dL_1433 : decode code 1433 = .ok (.iconst 1, 1) := by decide +kernel
theorem dL_1434 : decode code 1434 = .ok (.iadd, 1) := by decide +kernel
theorem dL_1435 : decode code 1435 = .ok (.iaload, 1) := by decide +kernel
theorem dL_1436 : decode code 1436 = .ok (.aload_n 0, 1) := by decide +kernel
theorem dL_1437 : decode code 1437 = .ok (.iload 4, 2) := by decide +kernel
theorem dL_1439 : decode code 1439 = .ok (.iconst 2, 1) := by decide +kernel
theorem dL_1440 : decode code 1440 = .ok (.iadd, 1) := by decide +kernel
theorem dL_1441 : decode code 1441 = .ok (.iaload, 1) := by decide +kernel
theorem dL_1442 : decode code 1442 = .ok (.aload_n 3, 1) := by decide +kernel
theorem dL_1443 : decode code 1443 = .ok (.invokestatic 156, 3) := by decide +kernel
theorem dL_1446 : decode code 1446 = .ok (.istore 5, 2) := by decide +kernel
theorem dL_1448 : decode code 1448 = .ok (.aload_n 2, 1) := by decide +kernel
end LAW5614
