section LAW5612
theorem dL_1189 : decode code 1189 = .ok (.iaload, 1) := by decide +kernel
theorem dL_1190 : decode code 1190 = .ok (.aload_n 0, 1) := by decide +kernel
theorem dL_1191 : decode code 1191 = .ok (.iload 4, 2) := by decide +kernel
theorem dL_1193 : decode code 1193 = .ok (.iconst 3, 1) := by decide +kernel
theorem dL_1194 : decode code 1194 = .ok (.iadd, 1) := by decide +kernel
theorem dL_1195 : decode code 1195 = .ok (.iaload, 1) := by decide +kernel
theorem dL_1196 : decode code 1196 = .ok (.aload_n 3, 1) := by decide +kernel
theorem dL_1197 : decode code 1197 = .ok (.invokestatic 147, 3) := by decide +kernel
theorem dL_1200 : decode code 1200 = .ok (.istore 5, 2) := by decide +kernel
theorem dL_1202 : decode code 1202 = .ok (.aload_n 2, 1) := by decide +kernel
theorem dL_1203 : decode code 1203 = .ok (.aload_n 0, 1) := by decide +kernel
theorem dL_1204 : decode code 1204 = .ok (.iload 4, 2) := by decide +kernel
theorem dL_1206 : decode code 1206 = .ok (.iconst 1, 1) := by decide +kernel
theorem dL_1207 : decode code 1207 = .ok (.iadd, 1) := by decide +kernel
theorem dL_1208 : decode code 1208 = .ok (.iaload, 1) := by decide +kernel
theorem dL_1209 : decode code 1209 = .ok (.aload_n 0, 1) := by decide +kernel
theorem dL_1210 : decode code 1210 = .ok (.iload 4, 2) := by decide +kernel
theorem dL_1212 : decode code 1212 = .ok (.iconst 2, 1) := by decide +kernel
theorem dL_1213 : decode code 1213 = .ok (.iadd, 1) := by decide +kernel
theorem dL_1214 : decode code 1214 = .ok (.iaload, 1) := by decide +kernel
theorem dL_1215 : decode code 1215 = .ok (.aload_n 0, 1) := by decide +kernel
theorem dL_1216 : decode code 1216 = .ok (.iload 4, 2) := by decide +kernel
theorem dL_1218 : decode code 1218 = .ok (.iconst 3, 1) := by decide +kernel
theorem dL_1219 : decode code 1219 = .ok (.iadd, 1) := by decide +kernel
theorem dL_1220 : decode code 1220 = .ok (.iaload, 1) := by decide +kernel
theorem dL_1221 : decode code 1221 = .ok (.invokevirtual 149, 3) := by decide +kernel
theorem dL_1224 : decode code 1224 = .ok (.istore 6, 2) := by decide +kernel
theorem dL_1226 : decode code 1226 = .ok (.aload_n 2, 1) := by decide +kernel
theorem dL_1227 : decode code 1227 = .ok (.invokevirtual 96, 3) := by decide +kernel
theorem dL_1230 : decode code 1230 = .ok (.iload 5, 2) := by decide +kernel
theorem dL_1232 : decode code 1232 = .ok (.if_icmp .eq 5, 3) := by decide +kernel
theorem dL_1235 : decode code 1235 = .ok (.iconst 0, 1) := by decide +kernel
theorem dL_1236 : decode code 1236 = .ok (.ireturn, 1) := by decide +kernel
theorem dL_1237 : decode code 1237 = .ok (.iload 5, 2) := by decide +kernel
theorem dL_1239 : decode code 1239 = .ok (.ifCond .ne 15, 3) := by decide +kernel
theorem dL_1242 : decode code 1242 = .ok (.aload_n 3, 1) := by decide +kernel
theorem dL_1243 : decode code 1243 = .ok (.iconst 0, 1) := by decide +kernel
theorem dL_1244 : decode code 1244 = .ok (.laload, 1) := by decide +kernel
theorem dL_1245 : decode code 1245 = .ok (.iload 6, 2) := by decide +kernel
theorem dL_1247 : decode code 1247 = .ok (.i2l, 1) := by decide +kernel
theorem dL_1248 : decode code 1248 = .ok (.lcmp, 1) := by decide +kernel
theorem dL_1249 : decode code 1249 = .ok (.ifCond .eq 5, 3) := by decide +kernel
theorem dL_1252 : decode code 1252 = .ok (.iconst 0, 1) := by decide +kernel
theorem dL_1253 : decode code 1253 = .ok (.ireturn, 1) := by decide +kernel
theorem dL_1254 : decode code 1254 = .ok (.goto 491, 3) := by decide +kernel
theorem dL_1257 : decode code 1257 = .ok (.aload_n 1, 1) := by decide +kernel
theorem dL_1258 : decode code 1258 = .ok (.aload_n 0, 1) := by decide +kernel
theorem dL_1259 : decode code 1259 = .ok (.iload 4, 2) := by decide +kernel
theorem dL_1261 : decode code 1261 = .ok (.iconst 1, 1) := by decide +kernel
theorem dL_1262 : decode code 1262 = .ok (.iadd, 1) := by decide +kernel
theorem dL_1263 : decode code 1263 = .ok (.iaload, 1) := by decide +kernel
theorem dL_1264 : decode code 1264 = .ok (.aload_n 0, 1) := by decide +kernel
theorem dL_1265 : decode code 1265 = .ok (.iload 4, 2) := by decide +kernel
theorem dL_1267 : decode code 1267 = .ok (.iconst 2, 1) := by decide +kernel
theorem dL_1268 : decode code 1268 = .ok (.iadd, 1) := by decide +kernel
theorem dL_1269 : decode code 1269 = .ok (.iaload, 1) := by decide +kernel
theorem dL_1270 : decode code 1270 = .ok (.aload_n 0, 1) := by decide +kernel
theorem dL_1271 : decode code 1271 = .ok (.iload 4, 2) := by decide +kernel
theorem dL_1273 : decode code 1273 = .ok (.iconst 3, 1) := by decide +kernel
theorem dL_1274 : decode code 1274 = .ok (.iadd, 1) := by decide +kernel
end LAW5612
