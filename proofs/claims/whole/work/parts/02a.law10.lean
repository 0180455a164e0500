section LAW5610
theorem dL_1011 : decode code 1011 = .ok (.iconst 0, 1) := by decide +kernel
theorem dL_1012 : decode code 1012 = .ok (.ireturn, 1) := by decide +kernel
theorem dL_1013 : decode code 1013 = .ok (.goto 732, 3) := by decide +kernel
theorem dL_1016 : decode code 1016 = .ok (.aload_n 1, 1) := by decide +kernel
theorem dL_1017 : decode code 1017 = .ok (.aload_n 0, 1) := by decide +kernel
theorem dL_1018 : decode code 1018 = .ok (.iload 4, 2) := by decide +kernel
theorem dL_1020 : decode code 1020 = .ok (.iconst 1, 1) := by decide +kernel
theorem dL_1021 : decode code 1021 = .ok (.iadd, 1) := by decide +kernel
theorem dL_1022 : decode code 1022 = .ok (.iaload, 1) := by decide +kernel
theorem dL_1023 : decode code 1023 = .ok (.aload_n 0, 1) := by decide +kernel
theorem dL_1024 : decode code 1024 = .ok (.iload 4, 2) := by decide +kernel
theorem dL_1026 : decode code 1026 = .ok (.iconst 2, 1) := by decide +kernel
theorem dL_1027 : decode code 1027 = .ok (.iadd, 1) := by decide +kernel
theorem dL_1028 : decode code 1028 = .ok (.iaload, 1) := by decide +kernel
theorem dL_1029 : decode code 1029 = .ok (.aload_n 3, 1) := by decide +kernel
theorem dL_1030 : decode code 1030 = .ok (.invokestatic 137, 3) := by decide +kernel
theorem dL_1033 : decode code 1033 = .ok (.istore 5, 2) := by decide +kernel
theorem dL_1035 : decode code 1035 = .ok (.aload_n 2, 1) := by decide +kernel
theorem dL_1036 : decode code 1036 = .ok (.aload_n 0, 1) := by decide +kernel
theorem dL_1037 : decode code 1037 = .ok (.iload 4, 2) := by decide +kernel
theorem dL_1039 : decode code 1039 = .ok (.iconst 1, 1) := by decide +kernel
theorem dL_1040 : decode code 1040 = .ok (.iadd, 1) := by decide +kernel
theorem dL_1041 : decode code 1041 = .ok (.iaload, 1) := by decide +kernel
theorem dL_1042 : decode code 1042 = .ok (.aload_n 0, 1) := by decide +kernel
theorem dL_1043 : decode code 1043 = .ok (.iload 4, 2) := by decide +kernel
theorem dL_1045 : decode code 1045 = .ok (.iconst 2, 1) := by decide +kernel
theorem dL_1046 : decode code 1046 = .ok (.iadd, 1) := by decide +kernel
theorem dL_1047 : decode code 1047 = .ok (.iaload, 1) := by decide +kernel
theorem dL_1048 : decode code 1048 = .ok (.invokevirtual 139, 3) := by decide +kernel
theorem dL_1051 : decode code 1051 = .ok (.istore 6, 2) := by decide +kernel
theorem dL_1053 : decode code 1053 = .ok (.aload_n 2, 1) := by decide +kernel
theorem dL_1054 : decode code 1054 = .ok (.invokevirtual 96, 3) := by decide +kernel
theorem dL_1057 : decode code 1057 = .ok (.iload 5, 2) := by decide +kernel
theorem dL_1059 : decode code 1059 = .ok (.if_icmp .eq 5, 3) := by decide +kernel
theorem dL_1062 : decode code 1062 = .ok (.iconst 0, 1) := by decide +kernel
theorem dL_1063 : decode code 1063 = .ok (.ireturn, 1) := by decide +kernel
theorem dL_1064 : decode code 1064 = .ok (.iload 5, 2) := by decide +kernel
theorem dL_1066 : decode code 1066 = .ok (.ifCond .ne 15, 3) := by decide +kernel
theorem dL_1069 : decode code 1069 = .ok (.aload_n 3, 1) := by decide +kernel
theorem dL_1070 : decode code 1070 = .ok (.iconst 0, 1) := by decide +kernel
theorem dL_1071 : decode code 1071 = .ok (.laload, 1) := by decide +kernel
theorem dL_1072 : decode code 1072 = .ok (.iload 6, 2) := by decide +kernel
theorem dL_1074 : decode code 1074 = .ok (.i2l, 1) := by decide +kernel
theorem dL_1075 : decode code 1075 = .ok (.lcmp, 1) := by decide +kernel
theorem dL_1076 : decode code 1076 = .ok (.ifCond .eq 5, 3) := by decide +kernel
theorem dL_1079 : decode code 1079 = .ok (.iconst 0, 1) := by decide +kernel
theorem dL_1080 : decode code 1080 = .ok (.ireturn, 1) := by decide +kernel
theorem dL_1081 : decode code 1081 = .ok (.goto 664, 3) := by decide +kernel
theorem dL_1084 : decode code 1084 = .ok (.aload_n 1, 1) := by decide +kernel
theorem dL_1085 : decode code 1085 = .ok (.invokevirtual 140, 3) := by decide +kernel
theorem dL_1088 : decode code 1088 = .ok (.aload_n 2, 1) := by decide +kernel
theorem dL_1089 : decode code 1089 = .ok (.invokevirtual 143, 3) := by decide +kernel
theorem dL_1092 : decode code 1092 = .ok (.if_icmp .eq 653, 3) := by decide +kernel
theorem dL_1095 : decode code 1095 = .ok (.iconst 0, 1) := by decide +kernel
theorem dL_1096 : decode code 1096 = .ok (.ireturn, 1) := by decide +kernel
theorem dL_1097 : decode code 1097 = .ok (.aload_n 1, 1) := by decide +kernel
theorem dL_1098 : decode code 1098 = .ok (.aload_n 0, 1) := by decide +kernel
theorem dL_1099 : decode code 1099 = .ok (.iload 4, 2) := by decide +kernel
theorem dL_1101 : decode code 1101 = .ok (.iconst 1, 1) := by decide +kernel
theorem dL_1102 : decode code 1102 = .ok (.iadd, 1) := by decide +kernel
end LAW5610
