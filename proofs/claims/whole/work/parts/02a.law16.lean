section LAW5616
theorem dL_1540 : decode code 1540 = .ok (.if_icmp .eq 5, 3) := by decide +kernel
theorem dL_1543 : decode code 1543 = .ok (.iconst 0, 1) := by decide +kernel
theorem dL_1544 : decode code 1544 = .ok (.ireturn, 1) := by decide +kernel
theorem dL_1545 : decode code 1545 = .ok (.iload 5, 2) := by decide +kernel
theorem dL_1547 : decode code 1547 = .ok (.ifCond .ne 15, 3) := by decide +kernel
theorem dL_1550 : decode code 1550 = .ok (.aload_n 3, 1) := by decide +kernel
theorem dL_1551 : decode code 1551 = .ok (.iconst 0, 1) := by decide +kernel
theorem dL_1552 : decode code 1552 = .ok (.laload, 1) := by decide +kernel
theorem dL_1553 : decode code 1553 = .ok (.iload 6, 2) := by decide +kernel
theorem dL_1555 : decode code 1555 = .ok (.i2l, 1) := by decide +kernel
theorem dL_1556 : decode code 1556 = .ok (.lcmp, 1) := by decide +kernel
theorem dL_1557 : decode code 1557 = .ok (.ifCond .eq 5, 3) := by decide +kernel
theorem dL_1560 : decode code 1560 = .ok (.iconst 0, 1) := by decide +kernel
theorem dL_1561 : decode code 1561 = .ok (.ireturn, 1) := by decide +kernel
theorem dL_1562 : decode code 1562 = .ok (.goto 183, 3) := by decide +kernel
theorem dL_1565 : decode code 1565 = .ok (.aload_n 1, 1) := by decide +kernel
theorem dL_1566 : decode code 1566 = .ok (.aload_n 0, 1) := by decide +kernel
theorem dL_1567 : decode code 1567 = .ok (.iload 4, 2) := by decide +kernel
theorem dL_1569 : decode code 1569 = .ok (.iconst 1, 1) := by decide +kernel
theorem dL_1570 : decode code 1570 = .ok (.iadd, 1) := by decide +kernel
theorem dL_1571 : decode code 1571 = .ok (.iaload, 1) := by decide +kernel
theorem dL_1572 : decode code 1572 = .ok (.aload_n 3, 1) := by decide +kernel
theorem dL_1573 : decode code 1573 = .ok (.invokestatic 162, 3) := by decide +kernel
theorem dL_1576 : decode code 1576 = .ok (.istore 5, 2) := by decide +kernel
theorem dL_1578 : decode code 1578 = .ok (.aload_n 2, 1) := by decide +kernel
theorem dL_1579 : decode code 1579 = .ok (.aload_n 0, 1) := by decide +kernel
theorem dL_1580 : decode code 1580 = .ok (.iload 4, 2) := by decide +kernel
theorem dL_1582 : decode code 1582 = .ok (.iconst 1, 1) := by decide +kernel
theorem dL_1583 : decode code 1583 = .ok (.iadd, 1) := by decide +kernel
theorem dL_1584 : decode code 1584 = .ok (.iaload, 1) := by decide +kernel
theorem dL_1585 : decode code 1585 = .ok (.invokevirtual 164, 3) := by decide +kernel
theorem dL_1588 : decode code 1588 = .ok (.istore 6, 2) := by decide +kernel
theorem dL_1590 : decode code 1590 = .ok (.aload_n 2, 1) := by decide +kernel
theorem dL_1591 : decode code 1591 = .ok (.invokevirtual 96, 3) := by decide +kernel
theorem dL_1594 : decode code 1594 = .ok (.iload 5, 2) := by decide +kernel
theorem dL_1596 : decode code 1596 = .ok (.if_icmp .eq 5, 3) := by decide +kernel
theorem dL_1599 : decode code 1599 = .ok (.iconst 0, 1) := by decide +kernel
theorem dL_1600 : decode code 1600 = .ok (.ireturn, 1) := by decide +kernel
theorem dL_1601 : decode code 1601 = .ok (.iload 5, 2) := by decide +kernel
theorem dL_1603 : decode code 1603 = .ok (.ifCond .ne 15, 3) := by decide +kernel
theorem dL_1606 : decode code 1606 = .ok (.aload_n 3, 1) := by decide +kernel
theorem dL_1607 : decode code 1607 = .ok (.iconst 0, 1) := by decide +kernel
theorem dL_1608 : decode code 1608 = .ok (.laload, 1) := by decide +kernel
theorem dL_1609 : decode code 1609 = .ok (.iload 6, 2) := by decide +kernel
theorem dL_1611 : decode code 1611 = .ok (.i2l, 1) := by decide +kernel
theorem dL_1612 : decode code 1612 = .ok (.lcmp, 1) := by decide +kernel
theorem dL_1613 : decode code 1613 = .ok (.ifCond .eq 5, 3) := by decide +kernel
theorem dL_1616 : decode code 1616 = .ok (.iconst 0, 1) := by decide +kernel
theorem dL_1617 : decode code 1617 = .ok (.ireturn, 1) := by decide +kernel
theorem dL_1618 : decode code 1618 = .ok (.goto 127, 3) := by decide +kernel
theorem dL_1621 : decode code 1621 = .ok (.aload_n 1, 1) := by decide +kernel
theorem dL_1622 : decode code 1622 = .ok (.aload_n 0, 1) := by decide +kernel
theorem dL_1623 : decode code 1623 = .ok (.iload 4, 2) := by decide +kernel
theorem dL_1625 : decode code 1625 = .ok (.iconst 1, 1) := by decide +kernel
theorem dL_1626 : decode code 1626 = .ok (.iadd, 1) := by decide +kernel
theorem dL_1627 : decode code 1627 = .ok (.iaload, 1) := by decide +kernel
theorem dL_1628 : decode code 1628 = .ok (.aload_n 0, 1) := by decide +kernel
theorem dL_1629 : decode code 1629 = .ok (.iload 4, 2) := by decide +kernel
theorem dL_1631 : decode code 1631 = .ok (.iconst 2, 1) := by decide +kernel
theorem dL_1632 : decode code 1632 = .ok (.iadd, 1) := by decide +kernel
end LAW5616
