section LAW5607
theorem dL_743 : decode code 743 = .ok (.iconst 1, 1) := by decide +kernel
theorem dL_744 : decode code 744 = .ok (.iadd, 1) := by decide +kernel
theorem dL_745 : decode code 745 = .ok (.iaload, 1) := by decide +kernel
theorem dL_746 : decode code 746 = .ok (.aload_n 0, 1) := by decide +kernel
theorem dL_747 : decode code 747 = .ok (.iload 4, 2) := by decide +kernel
theorem dL_749 : decode code 749 = .ok (.iconst 2, 1) := by decide +kernel
theorem dL_750 : decode code 750 = .ok (.iadd, 1) := by decide +kernel
theorem dL_751 : decode code 751 = .ok (.iaload, 1) := by decide +kernel
theorem dL_752 : decode code 752 = .ok (.invokevirtual 126, 3) := by decide +kernel
theorem dL_755 : decode code 755 = .ok (.istore 6, 2) := by decide +kernel
theorem dL_757 : decode code 757 = .ok (.aload_n 2, 1) := by decide +kernel
theorem dL_758 : decode code 758 = .ok (.invokevirtual 96, 3) := by decide +kernel
theorem dL_761 : decode code 761 = .ok (.iload 5, 2) := by decide +kernel
theorem dL_763 : decode code 763 = .ok (.if_icmp .eq 5, 3) := by decide +kernel
theorem dL_766 : decode code 766 = .ok (.iconst 0, 1) := by decide +kernel
theorem dL_767 : decode code 767 = .ok (.ireturn, 1) := by decide +kernel
theorem dL_768 : decode code 768 = .ok (.iload 5, 2) := by decide +kernel
theorem dL_770 : decode code 770 = .ok (.ifCond .ne 15, 3) := by decide +kernel
theorem dL_773 : decode code 773 = .ok (.aload_n 3, 1) := by decide +kernel
theorem dL_774 : decode code 774 = .ok (.iconst 0, 1) := by decide +kernel
theorem dL_775 : decode code 775 = .ok (.laload, 1) := by decide +kernel
theorem dL_776 : decode code 776 = .ok (.iload 6, 2) := by decide +kernel
theorem dL_778 : decode code 778 = .ok (.i2l, 1) := by decide +kernel
theorem dL_779 : decode code 779 = .ok (.lcmp, 1) := by decide +kernel
theorem dL_780 : decode code 780 = .ok (.ifCond .eq 5, 3) := by decide +kernel
theorem dL_783 : decode code 783 = .ok (.iconst 0, 1) := by decide +kernel
theorem dL_784 : decode code 784 = .ok (.ireturn, 1) := by decide +kernel
theorem dL_785 : decode code 785 = .ok (.goto 960, 3) := by decide +kernel
theorem dL_788 : decode code 788 = .ok (.aload_n 1, 1) := by decide +kernel
theorem dL_789 : decode code 789 = .ok (.aload_n 0, 1) := by decide +kernel
theorem dL_790 : decode code 790 = .ok (.iload 4, 2) := by decide +kernel
theorem dL_792 : decode code 792 = .ok (.iconst 1, 1) := by decide +kernel
theorem dL_793 : decode code 793 = .ok (.iadd, 1) := by decide +kernel
theorem dL_794 : decode code 794 = .ok (.iaload, 1) := by decide +kernel
theorem dL_795 : decode code 795 = .ok (.aload_n 0, 1) := by decide +kernel
theorem dL_796 : decode code 796 = .ok (.iload 4, 2) := by decide +kernel
theorem dL_798 : decode code 798 = .ok (.iconst 2, 1) := by decide +kernel
theorem dL_799 : decode code 799 = .ok (.iadd, 1) := by decide +kernel
theorem dL_800 : decode code 800 = .ok (.iaload, 1) := by decide +kernel
theorem dL_801 : decode code 801 = .ok (.aload_n 0, 1) := by decide +kernel
theorem dL_802 : decode code 802 = .ok (.iload 4, 2) := by decide +kernel
theorem dL_804 : decode code 804 = .ok (.iconst 3, 1) := by decide +kernel
theorem dL_805 : decode code 805 = .ok (.iadd, 1) := by decide +kernel
theorem dL_806 : decode code 806 = .ok (.iaload, 1) := by decide +kernel
theorem dL_807 : decode code 807 = .ok (.aload_n 0, 1) := by decide +kernel
theorem dL_808 : decode code 808 = .ok (.iload 4, 2) := by decide +kernel
theorem dL_810 : decode code 810 = .ok (.iconst 4, 1) := by decide +kernel
theorem dL_811 : decode code 811 = .ok (.iadd, 1) := by decide +kernel
theorem dL_812 : decode code 812 = .ok (.iaload, 1) := by decide +kernel
theorem dL_813 : decode code 813 = .ok (.aload_n 3, 1) := by decide +kernel
theorem dL_814 : decode code 814 = .ok (.invokestatic 127, 3) := by decide +kernel
theorem dL_817 : decode code 817 = .ok (.istore 5, 2) := by decide +kernel
theorem dL_819 : decode code 819 = .ok (.aload_n 2, 1) := by decide +kernel
theorem dL_820 : decode code 820 = .ok (.aload_n 0, 1) := by decide +kernel
theorem dL_821 : decode code 821 = .ok (.iload 4, 2) := by decide +kernel
theorem dL_823 : decode code 823 = .ok (.iconst 1, 1) := by decide +kernel
theorem dL_824 : decode code 824 = .ok (.iadd, 1) := by decide +kernel
theorem dL_825 : decode code 825 = .ok (.iaload, 1) := by decide +kernel
theorem dL_826 : decode code 826 = .ok (.aload_n 0, 1) := by decide +kernel
theorem dL_827 : decode code 827 = .ok (.iload 4, 2) := by decide +kernel
end LAW5607
