section LAW5602
theorem dL_287 : decode code 287 = .ok (.lcmp, 1) := by decide +kernel
theorem dL_288 : decode code 288 = .ok (.ifCond .eq 5, 3) := by decide +kernel
theorem dL_291 : decode code 291 = .ok (.iconst 0, 1) := by decide +kernel
theorem dL_292 : decode code 292 = .ok (.ireturn, 1) := by decide +kernel
theorem dL_293 : decode code 293 = .ok (.goto 1452, 3) := by decide +kernel
theorem dL_296 : decode code 296 = .ok (.aload_n 1, 1) := by decide +kernel
theorem dL_297 : decode code 297 = .ok (.aload_n 0, 1) := by decide +kernel
theorem dL_298 : decode code 298 = .ok (.iload 4, 2) := by decide +kernel
theorem dL_300 : decode code 300 = .ok (.iconst 1, 1) := by decide +kernel
theorem dL_301 : decode code 301 = .ok (.iadd, 1) := by decide +kernel
theorem dL_302 : decode code 302 = .ok (.iaload, 1) := by decide +kernel
theorem dL_303 : decode code 303 = .ok (.aload_n 3, 1) := by decide +kernel
theorem dL_304 : decode code 304 = .ok (.invokestatic 104, 3) := by decide +kernel
theorem dL_307 : decode code 307 = .ok (.istore 5, 2) := by decide +kernel
theorem dL_309 : decode code 309 = .ok (.aload_n 2, 1) := by decide +kernel
theorem dL_310 : decode code 310 = .ok (.aload_n 0, 1) := by decide +kernel
theorem dL_311 : decode code 311 = .ok (.iload 4, 2) := by decide +kernel
theorem dL_313 : decode code 313 = .ok (.iconst 1, 1) := by decide +kernel
theorem dL_314 : decode code 314 = .ok (.iadd, 1) := by decide +kernel
theorem dL_315 : decode code 315 = .ok (.iaload, 1) := by decide +kernel
theorem dL_316 : decode code 316 = .ok (.invokevirtual 107, 3) := by decide +kernel
theorem dL_319 : decode code 319 = .ok (.istore 6, 2) := by decide +kernel
theorem dL_321 : decode code 321 = .ok (.aload_n 2, 1) := by decide +kernel
theorem dL_322 : decode code 322 = .ok (.invokevirtual 96, 3) := by decide +kernel
theorem dL_325 : decode code 325 = .ok (.iload 5, 2) := by decide +kernel
theorem dL_327 : decode code 327 = .ok (.if_icmp .eq 5, 3) := by decide +kernel
theorem dL_330 : decode code 330 = .ok (.iconst 0, 1) := by decide +kernel
theorem dL_331 : decode code 331 = .ok (.ireturn, 1) := by decide +kernel
theorem dL_332 : decode code 332 = .ok (.iload 5, 2) := by decide +kernel
theorem dL_334 : decode code 334 = .ok (.ifCond .ne 15, 3) := by decide +kernel
theorem dL_337 : decode code 337 = .ok (.aload_n 3, 1) := by decide +kernel
theorem dL_338 : decode code 338 = .ok (.iconst 0, 1) := by decide +kernel
theorem dL_339 : decode code 339 = .ok (.laload, 1) := by decide +kernel
theorem dL_340 : decode code 340 = .ok (.iload 6, 2) := by decide +kernel
theorem dL_342 : decode code 342 = .ok (.i2l, 1) := by decide +kernel
theorem dL_343 : decode code 343 = .ok (.lcmp, 1) := by decide +kernel
theorem dL_344 : decode code 344 = .ok (.ifCond .eq 5, 3) := by decide +kernel
theorem dL_347 : decode code 347 = .ok (.iconst 0, 1) := by decide +kernel
theorem dL_348 : decode code 348 = .ok (.ireturn, 1) := by decide +kernel
theorem dL_349 : decode code 349 = .ok (.goto 1396, 3) := by decide +kernel
theorem dL_352 : decode code 352 = .ok (.aload_n 1, 1) := by decide +kernel
theorem dL_353 : decode code 353 = .ok (.aload_n 0, 1) := by decide +kernel
theorem dL_354 : decode code 354 = .ok (.iload 4, 2) := by decide +kernel
theorem dL_356 : decode code 356 = .ok (.iconst 1, 1) := by decide +kernel
theorem dL_357 : decode code 357 = .ok (.iadd, 1) := by decide +kernel
theorem dL_358 : decode code 358 = .ok (.iaload, 1) := by decide +kernel
theorem dL_359 : decode code 359 = .ok (.aload_n 0, 1) := by decide +kernel
theorem dL_360 : decode code 360 = .ok (.iload 4, 2) := by decide +kernel
theorem dL_362 : decode code 362 = .ok (.iconst 2, 1) := by decide +kernel
theorem dL_363 : decode code 363 = .ok (.iadd, 1) := by decide +kernel
theorem dL_364 : decode code 364 = .ok (.iaload, 1) := by decide +kernel
theorem dL_365 : decode code 365 = .ok (.ifCond .eq 7, 3) := by decide +kernel
theorem dL_368 : decode code 368 = .ok (.iconst 1, 1) := by decide +kernel
theorem dL_369 : decode code 369 = .ok (.goto 4, 3) := by decide +kernel
theorem dL_372 : decode code 372 = .ok (.iconst 0, 1) := by decide +kernel
theorem dL_373 : decode code 373 = .ok (.aload_n 0, 1) := by decide +kernel
theorem dL_374 : decode code 374 = .ok (.iload 4, 2) := by decide +kernel
theorem dL_376 : decode code 376 = .ok (.iconst 3, 1) := by decide +kernel
theorem dL_377 : decode code 377 = .ok (.iadd, 1) := by decide +kernel
theorem dL_378 : decode code 378 = .ok (.iaload, 1) := by decide +kernel
end LAW5602
