section LAW5609
theorem dL_923 : decode code 923 = .ok (.laload, 1) := by decide +kernel
theorem dL_924 : decode code 924 = .ok (.iload 6, 2) := by decide +kernel
theorem dL_926 : decode code 926 = .ok (.i2l, 1) := by decide +kernel
theorem dL_927 : decode code 927 = .ok (.lcmp, 1) := by decide +kernel
theorem dL_928 : decode code 928 = .ok (.ifCond .eq 5, 3) := by decide +kernel
theorem dL_931 : decode code 931 = .ok (.iconst 0, 1) := by decide +kernel
theorem dL_932 : decode code 932 = .ok (.ireturn, 1) := by decide +kernel
theorem dL_933 : decode code 933 = .ok (.goto 812, 3) := by decide +kernel
theorem dL_936 : decode code 936 = .ok (.aload_n 1, 1) := by decide +kernel
theorem dL_937 : decode code 937 = .ok (.aload_n 0, 1) := by decide +kernel
theorem dL_938 : decode code 938 = .ok (.iload 4, 2) := by decide +kernel
theorem dL_940 : decode code 940 = .ok (.iconst 1, 1) := by decide +kernel
theorem dL_941 : decode code 941 = .ok (.iadd, 1) := by decide +kernel
theorem dL_942 : decode code 942 = .ok (.iaload, 1) := by decide +kernel
theorem dL_943 : decode code 943 = .ok (.aload_n 0, 1) := by decide +kernel
theorem dL_944 : decode code 944 = .ok (.iload 4, 2) := by decide +kernel
theorem dL_946 : decode code 946 = .ok (.iconst 2, 1) := by decide +kernel
theorem dL_947 : decode code 947 = .ok (.iadd, 1) := by decide +kernel
theorem dL_948 : decode code 948 = .ok (.iaload, 1) := by decide +kernel
theorem dL_949 : decode code 949 = .ok (.aload_n 0, 1) := by decide +kernel
theorem dL_950 : decode code 950 = .ok (.iload 4, 2) := by decide +kernel
theorem dL_952 : decode code 952 = .ok (.iconst 3, 1) := by decide +kernel
theorem dL_953 : decode code 953 = .ok (.iadd, 1) := by decide +kernel
theorem dL_954 : decode code 954 = .ok (.iaload, 1) := by decide +kernel
theorem dL_955 : decode code 955 = .ok (.aload_n 3, 1) := by decide +kernel
theorem dL_956 : decode code 956 = .ok (.invokestatic 134, 3) := by decide +kernel
theorem dL_959 : decode code 959 = .ok (.istore 5, 2) := by decide +kernel
theorem dL_961 : decode code 961 = .ok (.aload_n 2, 1) := by decide +kernel
theorem dL_962 : decode code 962 = .ok (.aload_n 0, 1) := by decide +kernel
theorem dL_963 : decode code 963 = .ok (.iload 4, 2) := by decide +kernel
theorem dL_965 : decode code 965 = .ok (.iconst 1, 1) := by decide +kernel
theorem dL_966 : decode code 966 = .ok (.iadd, 1) := by decide +kernel
theorem dL_967 : decode code 967 = .ok (.iaload, 1) := by decide +kernel
theorem dL_968 : decode code 968 = .ok (.aload_n 0, 1) := by decide +kernel
theorem dL_969 : decode code 969 = .ok (.iload 4, 2) := by decide +kernel
theorem dL_971 : decode code 971 = .ok (.iconst 2, 1) := by decide +kernel
theorem dL_972 : decode code 972 = .ok (.iadd, 1) := by decide +kernel
theorem dL_973 : decode code 973 = .ok (.iaload, 1) := by decide +kernel
theorem dL_974 : decode code 974 = .ok (.aload_n 0, 1) := by decide +kernel
theorem dL_975 : decode code 975 = .ok (.iload 4, 2) := by decide +kernel
theorem dL_977 : decode code 977 = .ok (.iconst 3, 1) := by decide +kernel
theorem dL_978 : decode code 978 = .ok (.iadd, 1) := by decide +kernel
theorem dL_979 : decode code 979 = .ok (.iaload, 1) := by decide +kernel
theorem dL_980 : decode code 980 = .ok (.invokevirtual 136, 3) := by decide +kernel
theorem dL_983 : decode code 983 = .ok (.istore 6, 2) := by decide +kernel
theorem dL_985 : decode code 985 = .ok (.aload_n 2, 1) := by decide +kernel
theorem dL_986 : decode code 986 = .ok (.invokevirtual 96, 3) := by decide +kernel
theorem dL_989 : decode code 989 = .ok (.iload 5, 2) := by decide +kernel
theorem dL_991 : decode code 991 = .ok (.if_icmp .eq 5, 3) := by decide +kernel
theorem dL_994 : decode code 994 = .ok (.iconst 0, 1) := by decide +kernel
theorem dL_995 : decode code 995 = .ok (.ireturn, 1) := by decide +kernel
theorem dL_996 : decode code 996 = .ok (.iload 5, 2) := by decide +kernel
theorem dL_998 : decode code 998 = .ok (.ifCond .ne 15, 3) := by decide +kernel
theorem dL_1001 : decode code 1001 = .ok (.aload_n 3, 1) := by decide +kernel
theorem dL_1002 : decode code 1002 = .ok (.iconst 0, 1) := by decide +kernel
theorem dL_1003 : decode code 1003 = .ok (.laload, 1) := by decide +kernel
theorem dL_1004 : decode code 1004 = .ok (.iload 6, 2) := by decide +kernel
theorem dL_1006 : decode code 1006 = .ok (.i2l, 1) := by decide +kernel
theorem dL_1007 : decode code 1007 = .ok (.lcmp, 1) := by decide +kernel
theorem dL_1008 : decode code 1008 = .ok (.ifCond .eq 5, 3) := by decide +kernel
end LAW5609
