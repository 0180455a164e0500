section LAW5600
theorem dL_0 : decode code 0 = .ok (.new 8, 3) := by decide +kernel
theorem dL_3 : decode code 3 = .ok (.dup, 1) := by decide +kernel
theorem dL_4 : decode code 4 = .ok (.invokespecial 86, 3) := by decide +kernel
theorem dL_7 : decode code 7 = .ok (.astore_n 1, 1) := by decide +kernel
theorem dL_8 : decode code 8 = .ok (.new 87, 3) := by decide +kernel
theorem dL_11 : decode code 11 = .ok (.dup, 1) := by decide +kernel
theorem dL_12 : decode code 12 = .ok (.invokespecial 89, 3) := by decide +kernel
theorem dL_15 : decode code 15 = .ok (.astore_n 2, 1) := by decide +kernel
theorem dL_16 : decode code 16 = .ok (.iconst 1, 1) := by decide +kernel
theorem dL_17 : decode code 17 = .ok (.newarray .long, 2) := by decide +kernel
theorem dL_19 : decode code 19 = .ok (.astore_n 3, 1) := by decide +kernel
theorem dL_20 : decode code 20 = .ok (.iconst 0, 1) := by decide +kernel
theorem dL_21 : decode code 21 = .ok (.istore 4, 2) := by decide +kernel
theorem dL_23 : decode code 23 = .ok (.iload 4, 2) := by decide +kernel
theorem dL_25 : decode code 25 = .ok (.aload_n 0, 1) := by decide +kernel
theorem dL_26 : decode code 26 = .ok (.arraylength, 1) := by decide +kernel
theorem dL_27 : decode code 27 = .ok (.bipush 6, 2) := by decide +kernel
theorem dL_29 : decode code 29 = .ok (.isub, 1) := by decide +kernel
theorem dL_30 : decode code 30 = .ok (.if_icmp .gt 1721, 3) := by decide +kernel
theorem dL_33 : decode code 33 = .ok (.aload_n 0, 1) := by decide +kernel
theorem dL_34 : decode code 34 = .ok (.iload 4, 2) := by decide +kernel
theorem dL_36 : decode code 36 = .ok (.iaload, 1) := by decide +kernel
theorem dL_37 : decode code 37 = .ok (.bipush 31, 2) := by decide +kernel
theorem dL_39 : decode code 39 = .ok (.iand, 1) := by decide +kernel
theorem dL_40 : decode code 40 = .ok (.tableswitch 1705 0 22 #[108, 176, 256, 312, 432, 488, 556, 624, 680, 748, 840, 896, 976, 1044, 1057, 1137, 1217, 1309, 1389, 1457, 1525, 1581, 1649], 108) := by decide +kernel
theorem dL_148 : decode code 148 = .ok (.aload_n 1, 1) := by decide +kernel
theorem dL_149 : decode code 149 = .ok (.aload_n 0, 1) := by decide +kernel
theorem dL_150 : decode code 150 = .ok (.iload 4, 2) := by decide +kernel
theorem dL_152 : decode code 152 = .ok (.iconst 1, 1) := by decide +kernel
theorem dL_153 : decode code 153 = .ok (.iadd, 1) := by decide +kernel
theorem dL_154 : decode code 154 = .ok (.iaload, 1) := by decide +kernel
theorem dL_155 : decode code 155 = .ok (.aload_n 0, 1) := by decide +kernel
theorem dL_156 : decode code 156 = .ok (.iload 4, 2) := by decide +kernel
theorem dL_158 : decode code 158 = .ok (.iconst 2, 1) := by decide +kernel
theorem dL_159 : decode code 159 = .ok (.iadd, 1) := by decide +kernel
theorem dL_160 : decode code 160 = .ok (.iaload, 1) := by decide +kernel
theorem dL_161 : decode code 161 = .ok (.aload_n 3, 1) := by decide +kernel
theorem dL_162 : decode code 162 = .ok (.invokestatic 90, 3) := by decide +kernel
theorem dL_165 : decode code 165 = .ok (.istore 5, 2) := by decide +kernel
theorem dL_167 : decode code 167 = .ok (.aload_n 2, 1) := by decide +kernel
theorem dL_168 : decode code 168 = .ok (.aload_n 0, 1) := by decide +kernel
theorem dL_169 : decode code 169 = .ok (.iload 4, 2) := by decide +kernel
theorem dL_171 : decode code 171 = .ok (.iconst 1, 1) := by decide +kernel
theorem dL_172 : decode code 172 = .ok (.iadd, 1) := by decide +kernel
theorem dL_173 : decode code 173 = .ok (.iaload, 1) := by decide +kernel
theorem dL_174 : decode code 174 = .ok (.aload_n 0, 1) := by decide +kernel
theorem dL_175 : decode code 175 = .ok (.iload 4, 2) := by decide +kernel
theorem dL_177 : decode code 177 = .ok (.iconst 2, 1) := by decide +kernel
theorem dL_178 : decode code 178 = .ok (.iadd, 1) := by decide +kernel
theorem dL_179 : decode code 179 = .ok (.iaload, 1) := by decide +kernel
theorem dL_180 : decode code 180 = .ok (.invokevirtual 95, 3) := by decide +kernel
theorem dL_183 : decode code 183 = .ok (.istore 6, 2) := by decide +kernel
theorem dL_185 : decode code 185 = .ok (.aload_n 2, 1) := by decide +kernel
theorem dL_186 : decode code 186 = .ok (.invokevirtual 96, 3) := by decide +kernel
theorem dL_189 : decode code 189 = .ok (.iload 5, 2) := by decide +kernel
theorem dL_191 : decode code 191 = .ok (.if_icmp .eq 5, 3) := by decide +kernel
theorem dL_194 : decode code 194 = .ok (.iconst 0, 1) := by decide +kernel
theorem dL_195 : decode code 195 = .ok (.ireturn, 1) := by decide +kernel
theorem dL_196 : decode code 196 = .ok (.iload 5, 2) := by decide +kernel
theorem dL_198 : decode code 198 = .ok (.ifCond .ne 15, 3) := by decide +kernel
end LAW5600
