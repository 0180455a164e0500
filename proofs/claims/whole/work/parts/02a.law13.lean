section LAW5613
theorem dL_1275 : decode code 1275 = .ok (.iaload, 1) := by decide +kernel
theorem dL_1276 : decode code 1276 = .ok (.aload_n 0, 1) := by decide +kernel
theorem dL_1277 : decode code 1277 = .ok (.iload 4, 2) := by decide +kernel
theorem dL_1279 : decode code 1279 = .ok (.iconst 4, 1) := by decide +kernel
theorem dL_1280 : decode code 1280 = .ok (.iadd, 1) := by decide +kernel
theorem dL_1281 : decode code 1281 = .ok (.iaload, 1) := by decide +kernel
theorem dL_1282 : decode code 1282 = .ok (.aload_n 3, 1) := by decide +kernel
theorem dL_1283 : decode code 1283 = .ok (.invokestatic 150, 3) := by decide +kernel
theorem dL_1286 : decode code 1286 = .ok (.istore 5, 2) := by decide +kernel
theorem dL_1288 : decode code 1288 = .ok (.aload_n 2, 1) := by decide +kernel
theorem dL_1289 : decode code 1289 = .ok (.aload_n 0, 1) := by decide +kernel
theorem dL_1290 : decode code 1290 = .ok (.iload 4, 2) := by decide +kernel
theorem dL_1292 : decode code 1292 = .ok (.iconst 1, 1) := by decide +kernel
theorem dL_1293 : decode code 1293 = .ok (.iadd, 1) := by decide +kernel
theorem dL_1294 : decode code 1294 = .ok (.iaload, 1) := by decide +kernel
theorem dL_1295 : decode code 1295 = .ok (.aload_n 0, 1) := by decide +kernel
theorem dL_1296 : decode code 1296 = .ok (.iload 4, 2) := by decide +kernel
theorem dL_1298 : decode code 1298 = .ok (.iconst 2, 1) := by decide +kernel
theorem dL_1299 : decode code 1299 = .ok (.iadd, 1) := by decide +kernel
theorem dL_1300 : decode code 1300 = .ok (.iaload, 1) := by decide +kernel
theorem dL_1301 : decode code 1301 = .ok (.aload_n 0, 1) := by decide +kernel
theorem dL_1302 : decode code 1302 = .ok (.iload 4, 2) := by decide +kernel
theorem dL_1304 : decode code 1304 = .ok (.iconst 3, 1) := by decide +kernel
theorem dL_1305 : decode code 1305 = .ok (.iadd, 1) := by decide +kernel
theorem dL_1306 : decode code 1306 = .ok (.iaload, 1) := by decide +kernel
theorem dL_1307 : decode code 1307 = .ok (.aload_n 0, 1) := by decide +kernel
theorem dL_1308 : decode code 1308 = .ok (.iload 4, 2) := by decide +kernel
theorem dL_1310 : decode code 1310 = .ok (.iconst 4, 1) := by decide +kernel
theorem dL_1311 : decode code 1311 = .ok (.iadd, 1) := by decide +kernel
theorem dL_1312 : decode code 1312 = .ok (.iaload, 1) := by decide +kernel
theorem dL_1313 : decode code 1313 = .ok (.invokevirtual 152, 3) := by decide +kernel
theorem dL_1316 : decode code 1316 = .ok (.istore 6, 2) := by decide +kernel
theorem dL_1318 : decode code 1318 = .ok (.aload_n 2, 1) := by decide +kernel
theorem dL_1319 : decode code 1319 = .ok (.invokevirtual 96, 3) := by decide +kernel
theorem dL_1322 : decode code 1322 = .ok (.iload 5, 2) := by decide +kernel
theorem dL_1324 : decode code 1324 = .ok (.if_icmp .eq 5, 3) := by decide +kernel
theorem dL_1327 : decode code 1327 = .ok (.iconst 0, 1) := by decide +kernel
theorem dL_1328 : decode code 1328 = .ok (.ireturn, 1) := by decide +kernel
theorem dL_1329 : decode code 1329 = .ok (.iload 5, 2) := by decide +kernel
theorem dL_1331 : decode code 1331 = .ok (.ifCond .ne 15, 3) := by decide +kernel
theorem dL_1334 : decode code 1334 = .ok (.aload_n 3, 1) := by decide +kernel
theorem dL_1335 : decode code 1335 = .ok (.iconst 0, 1) := by decide +kernel
theorem dL_1336 : decode code 1336 = .ok (.laload, 1) := by decide +kernel
theorem dL_1337 : decode code 1337 = .ok (.iload 6, 2) := by decide +kernel
theorem dL_1339 : decode code 1339 = .ok (.i2l, 1) := by decide +kernel
theorem dL_1340 : decode code 1340 = .ok (.lcmp, 1) := by decide +kernel
theorem dL_1341 : decode code 1341 = .ok (.ifCond .eq 5, 3) := by decide +kernel
theorem dL_1344 : decode code 1344 = .ok (.iconst 0, 1) := by decide +kernel
theorem dL_1345 : decode code 1345 = .ok (.ireturn, 1) := by decide +kernel
theorem dL_1346 : decode code 1346 = .ok (.goto 399, 3) := by decide +kernel
theorem dL_1349 : decode code 1349 = .ok (.aload_n 1, 1) := by decide +kernel
theorem dL_1350 : decode code 1350 = .ok (.aload_n 0, 1) := by decide +kernel
theorem dL_1351 : decode code 1351 = .ok (.iload 4, 2) := by decide +kernel
theorem dL_1353 : decode code 1353 = .ok (.iconst 1, 1) := by decide +kernel
theorem dL_1354 : decode code 1354 = .ok (.iadd, 1) := by decide +kernel
theorem dL_1355 : decode code 1355 = .ok (.iaload, 1) := by decide +kernel
theorem dL_1356 : decode code 1356 = .ok (.aload_n 0, 1) := by decide +kernel
theorem dL_1357 : decode code 1357 = .ok (.iload 4, 2) := by decide +kernel
theorem dL_1359 : decode code 1359 = .ok (.iconst 2, 1) := by decide +kernel
theorem dL_1360 : decode code 1360 = .ok (.iadd, 1) := by decide +kernel
end LAW5613
