section LAW5611
theorem dL_1103 : decode code 1103 = .ok (.iaload, 1) := by decide +kernel
theorem dL_1104 : decode code 1104 = .ok (.aload_n 0, 1) := by decide +kernel
theorem dL_1105 : decode code 1105 = .ok (.iload 4, 2) := by decide +kernel
theorem dL_1107 : decode code 1107 = .ok (.iconst 2, 1) := by decide +kernel
theorem dL_1108 : decode code 1108 = .ok (.iadd, 1) := by decide +kernel
theorem dL_1109 : decode code 1109 = .ok (.iaload, 1) := by decide +kernel
theorem dL_1110 : decode code 1110 = .ok (.aload_n 0, 1) := by decide +kernel
theorem dL_1111 : decode code 1111 = .ok (.iload 4, 2) := by decide +kernel
theorem dL_1113 : decode code 1113 = .ok (.iconst 3, 1) := by decide +kernel
theorem dL_1114 : decode code 1114 = .ok (.iadd, 1) := by decide +kernel
theorem dL_1115 : decode code 1115 = .ok (.iaload, 1) := by decide +kernel
theorem dL_1116 : decode code 1116 = .ok (.aload_n 3, 1) := by decide +kernel
theorem dL_1117 : decode code 1117 = .ok (.invokestatic 144, 3) := by decide +kernel
theorem dL_1120 : decode code 1120 = .ok (.istore 5, 2) := by decide +kernel
theorem dL_1122 : decode code 1122 = .ok (.aload_n 2, 1) := by decide +kernel
theorem dL_1123 : decode code 1123 = .ok (.aload_n 0, 1) := by decide +kernel
theorem dL_1124 : decode code 1124 = .ok (.iload 4, 2) := by decide +kernel
theorem dL_1126 : decode code 1126 = .ok (.iconst 1, 1) := by decide +kernel
theorem dL_1127 : decode code 1127 = .ok (.iadd, 1) := by decide +kernel
theorem dL_1128 : decode code 1128 = .ok (.iaload, 1) := by decide +kernel
theorem dL_1129 : decode code 1129 = .ok (.aload_n 0, 1) := by decide +kernel
theorem dL_1130 : decode code 1130 = .ok (.iload 4, 2) := by decide +kernel
theorem dL_1132 : decode code 1132 = .ok (.iconst 2, 1) := by decide +kernel
theorem dL_1133 : decode code 1133 = .ok (.iadd, 1) := by decide +kernel
theorem dL_1134 : decode code 1134 = .ok (.iaload, 1) := by decide +kernel
theorem dL_1135 : decode code 1135 = .ok (.aload_n 0, 1) := by decide +kernel
theorem dL_1136 : decode code 1136 = .ok (.iload 4, 2) := by decide +kernel
theorem dL_1138 : decode code 1138 = .ok (.iconst 3, 1) := by decide +kernel
theorem dL_1139 : decode code 1139 = .ok (.iadd, 1) := by decide +kernel
theorem dL_1140 : decode code 1140 = .ok (.iaload, 1) := by decide +kernel
theorem dL_1141 : decode code 1141 = .ok (.invokevirtual 146, 3) := by decide +kernel
theorem dL_1144 : decode code 1144 = .ok (.istore 6, 2) := by decide +kernel
theorem dL_1146 : decode code 1146 = .ok (.aload_n 2, 1) := by decide +kernel
theorem dL_1147 : decode code 1147 = .ok (.invokevirtual 96, 3) := by decide +kernel
theorem dL_1150 : decode code 1150 = .ok (.iload 5, 2) := by decide +kernel
theorem dL_1152 : decode code 1152 = .ok (.if_icmp .eq 5, 3) := by decide +kernel
theorem dL_1155 : decode code 1155 = .ok (.iconst 0, 1) := by decide +kernel
theorem dL_1156 : decode code 1156 = .ok (.ireturn, 1) := by decide +kernel
theorem dL_1157 : decode code 1157 = .ok (.iload 5, 2) := by decide +kernel
theorem dL_1159 : decode code 1159 = .ok (.ifCond .ne 15, 3) := by decide +kernel
theorem dL_1162 : decode code 1162 = .ok (.aload_n 3, 1) := by decide +kernel
theorem dL_1163 : decode code 1163 = .ok (.iconst 0, 1) := by decide +kernel
theorem dL_1164 : decode code 1164 = .ok (.laload, 1) := by decide +kernel
theorem dL_1165 : decode code 1165 = .ok (.iload 6, 2) := by decide +kernel
theorem dL_1167 : decode code 1167 = .ok (.i2l, 1) := by decide +kernel
theorem dL_1168 : decode code 1168 = .ok (.lcmp, 1) := by decide +kernel
theorem dL_1169 : decode code 1169 = .ok (.ifCond .eq 5, 3) := by decide +kernel
theorem dL_1172 : decode code 1172 = .ok (.iconst 0, 1) := by decide +kernel
theorem dL_1173 : decode code 1173 = .ok (.ireturn, 1) := by decide +kernel
theorem dL_1174 : decode code 1174 = .ok (.goto 571, 3) := by decide +kernel
theorem dL_1177 : decode code 1177 = .ok (.aload_n 1, 1) := by decide +kernel
theorem dL_1178 : decode code 1178 = .ok (.aload_n 0, 1) := by decide +kernel
theorem dL_1179 : decode code 1179 = .ok (.iload 4, 2) := by decide +kernel
theorem dL_1181 : decode code 1181 = .ok (.iconst 1, 1) := by decide +kernel
theorem dL_1182 : decode code 1182 = .ok (.iadd, 1) := by decide +kernel
theorem dL_1183 : decode code 1183 = .ok (.iaload, 1) := by decide +kernel
theorem dL_1184 : decode code 1184 = .ok (.aload_n 0, 1) := by decide +kernel
theorem dL_1185 : decode code 1185 = .ok (.iload 4, 2) := by decide +kernel
theorem dL_1187 : decode code 1187 = .ok (.iconst 2, 1) := by decide +kernel
theorem dL_1188 : decode code 1188 = .ok (.iadd, 1) := by decide +kernel
end LAW5611
