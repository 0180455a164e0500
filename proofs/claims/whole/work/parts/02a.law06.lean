section LAW5606
theorem dL_651 : decode code 651 = .ok (.laload, 1) := by decide +kernel
theorem dL_652 : decode code 652 = .ok (.iload 6, 2) := by decide +kernel
theorem dL_654 : decode code 654 = .ok (.i2l, 1) := by decide +kernel
theorem dL_655 : decode code 655 = .ok (.lcmp, 1) := by decide +kernel
theorem dL_656 : decode code 656 = .ok (.ifCond .eq 5, 3) := by decide +kernel
theorem dL_659 : decode code 659 = .ok (.iconst 0, 1) := by decide +kernel
theorem dL_660 : decode code 660 = .ok (.ireturn, 1) := by decide +kernel
theorem dL_661 : decode code 661 = .ok (.goto 1084, 3) := by decide +kernel
theorem dL_664 : decode code 664 = .ok (.aload_n 1, 1) := by decide +kernel
theorem dL_665 : decode code 665 = .ok (.aload_n 0, 1) := by decide +kernel
theorem dL_666 : decode code 666 = .ok (.iload 4, 2) := by decide +kernel
theorem dL_668 : decode code 668 = .ok (.iconst 1, 1) := by decide +kernel
theorem dL_669 : decode code 669 = .ok (.iadd, 1) := by decide +kernel
theorem dL_670 : decode code 670 = .ok (.iaload, 1) := by decide +kernel
theorem dL_671 : decode code 671 = .ok (.aload_n 3, 1) := by decide +kernel
theorem dL_672 : decode code 672 = .ok (.invokestatic 121, 3) := by decide +kernel
theorem dL_675 : decode code 675 = .ok (.istore 5, 2) := by decide +kernel
theorem dL_677 : decode code 677 = .ok (.aload_n 2, 1) := by decide +kernel
theorem dL_678 : decode code 678 = .ok (.aload_n 0, 1) := by decide +kernel
theorem dL_679 : decode code 679 = .ok (.iload 4, 2) := by decide +kernel
theorem dL_681 : decode code 681 = .ok (.iconst 1, 1) := by decide +kernel
theorem dL_682 : decode code 682 = .ok (.iadd, 1) := by decide +kernel
theorem dL_683 : decode code 683 = .ok (.iaload, 1) := by decide +kernel
theorem dL_684 : decode code 684 = .ok (.invokevirtual 123, 3) := by decide +kernel
theorem dL_687 : decode code 687 = .ok (.istore 6, 2) := by decide +kernel
theorem dL_689 : decode code 689 = .ok (.aload_n 2, 1) := by decide +kernel
theorem dL_690 : decode code 690 = .ok (.invokevirtual 96, 3) := by decide +kernel
theorem dL_693 : decode code 693 = .ok (.iload 5, 2) := by decide +kernel
theorem dL_695 : decode code 695 = .ok (.if_icmp .eq 5, 3) := by decide +kernel
theorem dL_698 : decode code 698 = .ok (.iconst 0, 1) := by decide +kernel
theorem dL_699 : decode code 699 = .ok (.ireturn, 1) := by decide +kernel
theorem dL_700 : decode code 700 = .ok (.iload 5, 2) := by decide +kernel
theorem dL_702 : decode code 702 = .ok (.ifCond .ne 15, 3) := by decide +kernel
theorem dL_705 : decode code 705 = .ok (.aload_n 3, 1) := by decide +kernel
theorem dL_706 : decode code 706 = .ok (.iconst 0, 1) := by decide +kernel
theorem dL_707 : decode code 707 = .ok (.laload, 1) := by decide +kernel
theorem dL_708 : decode code 708 = .ok (.iload 6, 2) := by decide +kernel
theorem dL_710 : decode code 710 = .ok (.i2l, 1) := by decide +kernel
theorem dL_711 : decode code 711 = .ok (.lcmp, 1) := by decide +kernel
theorem dL_712 : decode code 712 = .ok (.ifCond .eq 5, 3) := by decide +kernel
theorem dL_715 : decode code 715 = .ok (.iconst 0, 1) := by decide +kernel
theorem dL_716 : decode code 716 = .ok (.ireturn, 1) := by decide +kernel
theorem dL_717 : decode code 717 = .ok (.goto 1028, 3) := by decide +kernel
theorem dL_720 : decode code 720 = .ok (.aload_n 1, 1) := by decide +kernel
theorem dL_721 : decode code 721 = .ok (.aload_n 0, 1) := by decide +kernel
theorem dL_722 : decode code 722 = .ok (.iload 4, 2) := by decide +kernel
theorem dL_724 : decode code 724 = .ok (.iconst 1, 1) := by decide +kernel
theorem dL_725 : decode code 725 = .ok (.iadd, 1) := by decide +kernel
theorem dL_726 : decode code 726 = .ok (.iaload, 1) := by decide +kernel
theorem dL_727 : decode code 727 = .ok (.aload_n 0, 1) := by decide +kernel
theorem dL_728 : decode code 728 = .ok (.iload 4, 2) := by decide +kernel
theorem dL_730 : decode code 730 = .ok (.iconst 2, 1) := by decide +kernel
theorem dL_731 : decode code 731 = .ok (.iadd, 1) := by decide +kernel
theorem dL_732 : decode code 732 = .ok (.iaload, 1) := by decide +kernel
theorem dL_733 : decode code 733 = .ok (.aload_n 3, 1) := by decide +kernel
theorem dL_734 : decode code 734 = .ok (.invokestatic 124, 3) := by decide +kernel
theorem dL_737 : decode code 737 = .ok (.istore 5, 2) := by decide +kernel
theorem dL_739 : decode code 739 = .ok (.aload_n 2, 1) := by decide +kernel
theorem dL_740 : decode code 740 = .ok (.aload_n 0, 1) := by decide +kernel
theorem dL_741 : decode code 741 = .ok (.iload 4, 2) := by decide +kernel
end LAW5606
