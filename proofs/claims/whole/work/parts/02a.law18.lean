section LAW5618
theorem dL_1730 : decode code 1730 = .ok (.aload_n 3, 1) := by decide +kernel
theorem dL_1731 : decode code 1731 = .ok (.iconst 0, 1) := by decide +kernel
theorem dL_1732 : decode code 1732 = .ok (.laload, 1) := by decide +kernel
theorem dL_1733 : decode code 1733 = .ok (.iload 6, 2) := by decide +kernel
theorem dL_1735 : decode code 1735 = .ok (.i2l, 1) := by decide +kernel
theorem dL_1736 : decode code 1736 = .ok (.lcmp, 1) := by decide +kernel
theorem dL_1737 : decode code 1737 = .ok (.ifCond .eq 5, 3) := by decide +kernel
theorem dL_1740 : decode code 1740 = .ok (.iconst 0, 1) := by decide +kernel
theorem dL_1741 : decode code 1741 = .ok (.ireturn, 1) := by decide +kernel
theorem dL_1742 : decode code 1742 = .ok (.goto 3, 3) := by decide +kernel
theorem dL_1745 : decode code 1745 = .ok (.iinc 4 6, 3) := by decide +kernel
theorem dL_1748 : decode code 1748 = .ok (.goto (-1725), 3) := by decide +kernel
theorem dL_1751 : decode code 1751 = .ok (.iconst 1, 1) := by decide +kernel
theorem dL_1752 : decode code 1752 = .ok (.ireturn, 1) := by decide +kernel
end LAW5618
