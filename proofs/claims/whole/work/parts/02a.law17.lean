section LAW5617
theorem dL_1633 : decode code 1633 = .ok (.iaload, 1) := by decide +kernel
theorem dL_1634 : decode code 1634 = .ok (.aload_n 3, 1) := by decide +kernel
theorem dL_1635 : decode code 1635 = .ok (.invokestatic 165, 3) := by decide +kernel
theorem dL_1638 : decode code 1638 = .ok (.istore 5, 2) := by decide +kernel
theorem dL_1640 : decode code 1640 = .ok (.aload_n 2, 1) := by decide +kernel
theorem dL_1641 : decode code 1641 = .ok (.aload_n 0, 1) := by decide +kernel
theorem dL_1642 : decode code 1642 = .ok (.iload 4, 2) := by decide +kernel
theorem dL_1644 : decode code 1644 = .ok (.iconst 1, 1) := by decide +kernel
theorem dL_1645 : decode code 1645 = .ok (.iadd, 1) := by decide +kernel
theorem dL_1646 : decode code 1646 = .ok (.iaload, 1) := by decide +kernel
theorem dL_1647 : decode code 1647 = .ok (.aload_n 0, 1) := by decide +kernel
theorem dL_1648 : decode code 1648 = .ok (.iload 4, 2) := by decide +kernel
theorem dL_1650 : decode code 1650 = .ok (.iconst 2, 1) := by decide +kernel
theorem dL_1651 : decode code 1651 = .ok (.iadd, 1) := by decide +kernel
theorem dL_1652 : decode code 1652 = .ok (.iaload, 1) := by decide +kernel
theorem dL_1653 : decode code 1653 = .ok (.invokevirtual 167, 3) := by decide +kernel
theorem dL_1656 : decode code 1656 = .ok (.istore 6, 2) := by decide +kernel
theorem dL_1658 : decode code 1658 = .ok (.aload_n 2, 1) := by decide +kernel
theorem dL_1659 : decode code 1659 = .ok (.invokevirtual 96, 3) := by decide +kernel
theorem dL_1662 : decode code 1662 = .ok (.iload 5, 2) := by decide +kernel
theorem dL_1664 : decode code 1664 = .ok (.if_icmp .eq 5, 3) := by decide +kernel
theorem dL_1667 : decode code 1667 = .ok (.iconst 0, 1) := by decide +kernel
theorem dL_1668 : decode code 1668 = .ok (.ireturn, 1) := by decide +kernel
theorem dL_1669 : decode code 1669 = .ok (.iload 5, 2) := by decide +kernel
theorem dL_1671 : decode code 1671 = .ok (.ifCond .ne 15, 3) := by decide +kernel
theorem dL_1674 : decode code 1674 = .ok (.aload_n 3, 1) := by decide +kernel
theorem dL_1675 : decode code 1675 = .ok (.iconst 0, 1) := by decide +kernel
theorem dL_1676 : decode code 1676 = .ok (.laload, 1) := by decide +kernel
theorem dL_1677 : decode code 1677 = .ok (.iload 6, 2) := by decide +kernel
theorem dL_1679 : decode code 1679 = .ok (.i2l, 1) := by decide +kernel
theorem dL_1680 : decode code 1680 = .ok (.lcmp, 1) := by decide +kernel
theorem dL_1681 : decode code 1681 = .ok (.ifCond .eq 5, 3) := by decide +kernel
theorem dL_1684 : decode code 1684 = .ok (.iconst 0, 1) := by decide +kernel
theorem dL_1685 : decode code 1685 = .ok (.ireturn, 1) := by decide +kernel
theorem dL_1686 : decode code 1686 = .ok (.goto 59, 3) := by decide +kernel
theorem dL_1689 : decode code 1689 = .ok (.aload_n 1, 1) := by decide +kernel
theorem dL_1690 : decode code 1690 = .ok (.aload_n 0, 1) := by decide +kernel
theorem dL_1691 : decode code 1691 = .ok (.iload 4, 2) := by decide +kernel
theorem dL_1693 : decode code 1693 = .ok (.iconst 1, 1) := by decide +kernel
theorem dL_1694 : decode code 1694 = .ok (.iadd, 1) := by decide +kernel
theorem dL_1695 : decode code 1695 = .ok (.iaload, 1) := by decide +kernel
theorem dL_1696 : decode code 1696 = .ok (.aload_n 3, 1) := by decide +kernel
theorem dL_1697 : decode code 1697 = .ok (.invokestatic 168, 3) := by decide +kernel
theorem dL_1700 : decode code 1700 = .ok (.istore 5, 2) := by decide +kernel
theorem dL_1702 : decode code 1702 = .ok (.aload_n 2, 1) := by decide +kernel
theorem dL_1703 : decode code 1703 = .ok (.aload_n 0, 1) := by decide +kernel
theorem dL_1704 : decode code 1704 = .ok (.iload 4, 2) := by decide +kernel
theorem dL_1706 : decode code 1706 = .ok (.iconst 1, 1) := by decide +kernel
theorem dL_1707 : decode code 1707 = .ok (.iadd, 1) := by decide +kernel
theorem dL_1708 : decode code 1708 = .ok (.iaload, 1) := by decide +kernel
theorem dL_1709 : decode code 1709 = .ok (.invokevirtual 170, 3) := by decide +kernel
theorem dL_1712 : decode code 1712 = .ok (.istore 6, 2) := by decide +kernel
theorem dL_1714 : decode code 1714 = .ok (.aload_n 2, 1) := by decide +kernel
theorem dL_1715 : decode code 1715 = .ok (.invokevirtual 96, 3) := by decide +kernel
theorem dL_1718 : decode code 1718 = .ok (.iload 5, 2) := by decide +kernel
theorem dL_1720 : decode code 1720 = .ok (.if_icmp .eq 5, 3) := by decide +kernel
theorem dL_1723 : decode code 1723 = .ok (.iconst 0, 1) := by decide +kernel
theorem dL_1724 : decode code 1724 = .ok (.ireturn, 1) := by decide +kernel
theorem dL_1725 : decode code 1725 = .ok (.iload 5, 2) := by decide +kernel
theorem dL_1727 : decode code 1727 = .ok (.ifCond .ne 15, 3) := by decide +kernel
end LAW5617
