section LAW5608
theorem dL_829 : decode code 829 = .ok (.iconst 2, 1) := by decide +kernel
theorem dL_830 : decode code 830 = .ok (.iadd, 1) := by decide +kernel
theorem dL_831 : decode code 831 = .ok (.iaload, 1) := by decide +kernel
theorem dL_832 : decode code 832 = .ok (.aload_n 0, 1) := by decide +kernel
theorem dL_833 : decode code 833 = .ok (.iload 4, 2) := by decide +kernel
theorem dL_835 : decode code 835 = .ok (.iconst 3, 1) := by decide +kernel
theorem dL_836 : decode code 836 = .ok (.iadd, 1) := by decide +kernel
theorem dL_837 : decode code 837 = .ok (.iaload, 1) := by decide +kernel
theorem dL_838 : decode code 838 = .ok (.aload_n 0, 1) := by decide +kernel
theorem dL_839 : decode code 839 = .ok (.iload 4, 2) := by decide +kernel
theorem dL_841 : decode code 841 = .ok (.iconst 4, 1) := by decide +kernel
theorem dL_842 : decode code 842 = .ok (.iadd, 1) := by decide +kernel
theorem dL_843 : decode code 843 = .ok (.iaload, 1) := by decide +kernel
theorem dL_844 : decode code 844 = .ok (.invokevirtual 130, 3) := by decide +kernel
theorem dL_847 : decode code 847 = .ok (.istore 6, 2) := by decide +kernel
theorem dL_849 : decode code 849 = .ok (.aload_n 2, 1) := by decide +kernel
theorem dL_850 : decode code 850 = .ok (.invokevirtual 96, 3) := by decide +kernel
theorem dL_853 : decode code 853 = .ok (.iload 5, 2) := by decide +kernel
theorem dL_855 : decode code 855 = .ok (.if_icmp .eq 5, 3) := by decide +kernel
theorem dL_858 : decode code 858 = .ok (.iconst 0, 1) := by decide +kernel
theorem dL_859 : decode code 859 = .ok (.ireturn, 1) := by decide +kernel
theorem dL_860 : decode code 860 = .ok (.iload 5, 2) := by decide +kernel
theorem dL_862 : decode code 862 = .ok (.ifCond .ne 15, 3) := by decide +kernel
theorem dL_865 : decode code 865 = .ok (.aload_n 3, 1) := by decide +kernel
theorem dL_866 : decode code 866 = .ok (.iconst 0, 1) := by decide +kernel
theorem dL_867 : decode code 867 = .ok (.laload, 1) := by decide +kernel
theorem dL_868 : decode code 868 = .ok (.iload 6, 2) := by decide +kernel
theorem dL_870 : decode code 870 = .ok (.i2l, 1) := by decide +kernel
theorem dL_871 : decode code 871 = .ok (.lcmp, 1) := by decide +kernel
theorem dL_872 : decode code 872 = .ok (.ifCond .eq 5, 3) := by decide +kernel
theorem dL_875 : decode code 875 = .ok (.iconst 0, 1) := by decide +kernel
theorem dL_876 : decode code 876 = .ok (.ireturn, 1) := by decide +kernel
theorem dL_877 : decode code 877 = .ok (.goto 868, 3) := by decide +kernel
theorem dL_880 : decode code 880 = .ok (.aload_n 1, 1) := by decide +kernel
theorem dL_881 : decode code 881 = .ok (.aload_n 0, 1) := by decide +kernel
theorem dL_882 : decode code 882 = .ok (.iload 4, 2) := by decide +kernel
theorem dL_884 : decode code 884 = .ok (.iconst 1, 1) := by decide +kernel
theorem dL_885 : decode code 885 = .ok (.iadd, 1) := by decide +kernel
theorem dL_886 : decode code 886 = .ok (.iaload, 1) := by decide +kernel
theorem dL_887 : decode code 887 = .ok (.aload_n 3, 1) := by decide +kernel
theorem dL_888 : decode code 888 = .ok (.invokestatic 131, 3) := by decide +kernel
theorem dL_891 : decode code 891 = .ok (.istore 5, 2) := by decide +kernel
theorem dL_893 : decode code 893 = .ok (.aload_n 2, 1) := by decide +kernel
theorem dL_894 : decode code 894 = .ok (.aload_n 0, 1) := by decide +kernel
theorem dL_895 : decode code 895 = .ok (.iload 4, 2) := by decide +kernel
theorem dL_897 : decode code 897 = .ok (.iconst 1, 1) := by decide +kernel
theorem dL_898 : decode code 898 = .ok (.iadd, 1) := by decide +kernel
theorem dL_899 : decode code 899 = .ok (.iaload, 1) := by decide +kernel
theorem dL_900 : decode code 900 = .ok (.invokevirtual 133, 3) := by decide +kernel
theorem dL_903 : decode code 903 = .ok (.istore 6, 2) := by decide +kernel
theorem dL_905 : decode code 905 = .ok (.aload_n 2, 1) := by decide +kernel
theorem dL_906 : decode code 906 = .ok (.invokevirtual 96, 3) := by decide +kernel
theorem dL_909 : decode code 909 = .ok (.iload 5, 2) := by decide +kernel
theorem dL_911 : decode code 911 = .ok (.if_icmp .eq 5, 3) := by decide +kernel
theorem dL_914 : decode code 914 = .ok (.iconst 0, 1) := by decide +kernel
theorem dL_915 : decode code 915 = .ok (.ireturn, 1) := by decide +kernel
theorem dL_916 : decode code 916 = .ok (.iload 5, 2) := by decide +kernel
theorem dL_918 : decode code 918 = .ok (.ifCond .ne 15, 3) := by decide +kernel
theorem dL_921 : decode code 921 = .ok (.aload_n 3, 1) := by decide +kernel
theorem dL_922 : decode code 922 = .ok (.iconst 0, 1) := by decide +kernel
end LAW5608
