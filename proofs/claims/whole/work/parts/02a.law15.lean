section LAW5615
theorem dL_1449 : decode code 1449 = .ok (.aload_n 0, 1) := by decide +kernel
theorem dL_1450 : decode code 1450 = .ok (.iload 4, 2) := by decide +kernel
theorem dL_1452 : decode code 1452 = .ok (.iconst 1, 1) := by decide +kernel
theorem dL_1453 : decode code 1453 = .ok (.iadd, 1) := by decide +kernel
theorem dL_1454 : decode code 1454 = .ok (.iaload, 1) := by decide +kernel
theorem dL_1455 : decode code 1455 = .ok (.aload_n 0, 1) := by decide +kernel
theorem dL_1456 : decode code 1456 = .ok (.iload 4, 2) := by decide +kernel
theorem dL_1458 : decode code 1458 = .ok (.iconst 2, 1) := by decide +kernel
theorem dL_1459 : decode code 1459 = .ok (.iadd, 1) := by decide +kernel
theorem dL_1460 : decode code 1460 = .ok (.iaload, 1) := by decide +kernel
theorem dL_1461 : decode code 1461 = .ok (.invokevirtual 158, 3) := by decide +kernel
theorem dL_1464 : decode code 1464 = .ok (.istore 6, 2) := by decide +kernel
theorem dL_1466 : decode code 1466 = .ok (.aload_n 2, 1) := by decide +kernel
theorem dL_1467 : decode code 1467 = .ok (.invokevirtual 96, 3) := by decide +kernel
theorem dL_1470 : decode code 1470 = .ok (.iload 5, 2) := by decide +kernel
theorem dL_1472 : decode code 1472 = .ok (.if_icmp .eq 5, 3) := by decide +kernel
theorem dL_1475 : decode code 1475 = .ok (.iconst 0, 1) := by decide +kernel
theorem dL_1476 : decode code 1476 = .ok (.ireturn, 1) := by decide +kernel
theorem dL_1477 : decode code 1477 = .ok (.iload 5, 2) := by decide +kernel
theorem dL_1479 : decode code 1479 = .ok (.ifCond .ne 15, 3) := by decide +kernel
theorem dL_1482 : decode code 1482 = .ok (.aload_n 3, 1) := by decide +kernel
theorem dL_1483 : decode code 1483 = .ok (.iconst 0, 1) := by decide +kernel
theorem dL_1484 : decode code 1484 = .ok (.laload, 1) := by decide +kernel
theorem dL_1485 : decode code 1485 = .ok (.iload 6, 2) := by decide +kernel
theorem dL_1487 : decode code 1487 = .ok (.i2l, 1) := by decide +kernel
theorem dL_1488 : decode code 1488 = .ok (.lcmp, 1) := by decide +kernel
theorem dL_1489 : decode code 1489 = .ok (.ifCond .eq 5, 3) := by decide +kernel
theorem dL_1492 : decode code 1492 = .ok (.iconst 0, 1) := by decide +kernel
theorem dL_1493 : decode code 1493 = .ok (.ireturn, 1) := by decide +kernel
theorem dL_1494 : decode code 1494 = .ok (.goto 251, 3) := by decide +kernel
theorem dL_1497 : decode code 1497 = .ok (.aload_n 1, 1) := by decide +kernel
theorem dL_1498 : decode code 1498 = .ok (.aload_n 0, 1) := by decide +kernel
theorem dL_1499 : decode code 1499 = .ok (.iload 4, 2) := by decide +kernel
theorem dL_1501 : decode code 1501 = .ok (.iconst 1, 1) := by decide +kernel
theorem dL_1502 : decode code 1502 = .ok (.iadd, 1) := by decide +kernel
theorem dL_1503 : decode code 1503 = .ok (.iaload, 1) := by decide +kernel
theorem dL_1504 : decode code 1504 = .ok (.aload_n 0, 1) := by decide +kernel
theorem dL_1505 : decode code 1505 = .ok (.iload 4, 2) := by decide +kernel
theorem dL_1507 : decode code 1507 = .ok (.iconst 2, 1) := by decide +kernel
theorem dL_1508 : decode code 1508 = .ok (.iadd, 1) := by decide +kernel
theorem dL_1509 : decode code 1509 = .ok (.iaload, 1) := by decide +kernel
theorem dL_1510 : decode code 1510 = .ok (.aload_n 3, 1) := by decide +kernel
theorem dL_1511 : decode code 1511 = .ok (.invokestatic 159, 3) := by decide +kernel
theorem dL_1514 : decode code 1514 = .ok (.istore 5, 2) := by decide +kernel
theorem dL_1516 : decode code 1516 = .ok (.aload_n 2, 1) := by decide +kernel
theorem dL_1517 : decode code 1517 = .ok (.aload_n 0, 1) := by decide +kernel
theorem dL_1518 : decode code 1518 = .ok (.iload 4, 2) := by decide +kernel
theorem dL_1520 : decode code 1520 = .ok (.iconst 1, 1) := by decide +kernel
theorem dL_1521 : decode code 1521 = .ok (.iadd, 1) := by decide +kernel
theorem dL_1522 : decode code 1522 = .ok (.iaload, 1) := by decide +kernel
theorem dL_1523 : decode code 1523 = .ok (.aload_n 0, 1) := by decide +kernel
theorem dL_1524 : decode code 1524 = .ok (.iload 4, 2) := by decide +kernel
theorem dL_1526 : decode code 1526 = .ok (.iconst 2, 1) := by decide +kernel
theorem dL_1527 : decode code 1527 = .ok (.iadd, 1) := by decide +kernel
theorem dL_1528 : decode code 1528 = .ok (.iaload, 1) := by decide +kernel
theorem dL_1529 : decode code 1529 = .ok (.invokevirtual 161, 3) := by decide +kernel
theorem dL_1532 : decode code 1532 = .ok (.istore 6, 2) := by decide +kernel
theorem dL_1534 : decode code 1534 = .ok (.aload_n 2, 1) := by decide +kernel
theorem dL_1535 : decode code 1535 = .ok (.invokevirtual 96, 3) := by decide +kernel
theorem dL_1538 : decode code 1538 = .ok (.iload 5, 2) := by decide +kernel
end LAW5615
