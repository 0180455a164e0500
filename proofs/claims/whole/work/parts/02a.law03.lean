section LAW5603
theorem dL_379 : decode code 379 = .ok (.aload_n 0, 1) := by decide +kernel
theorem dL_380 : decode code 380 = .ok (.iload 4, 2) := by decide +kernel
theorem dL_382 : decode code 382 = .ok (.iconst 4, 1) := by decide +kernel
theorem dL_383 : decode code 383 = .ok (.iadd, 1) := by decide +kernel
theorem dL_384 : decode code 384 = .ok (.iaload, 1) := by decide +kernel
theorem dL_385 : decode code 385 = .ok (.aload_n 0, 1) := by decide +kernel
theorem dL_386 : decode code 386 = .ok (.iload 4, 2) := by decide +kernel
theorem dL_388 : decode code 388 = .ok (.iconst 5, 1) := by decide +kernel
theorem dL_389 : decode code 389 = .ok (.iadd, 1) := by decide +kernel
theorem dL_390 : decode code 390 = .ok (.iaload, 1) := by decide +kernel
theorem dL_391 : decode code 391 = .ok (.aload_n 3, 1) := by decide +kernel
theorem dL_392 : decode code 392 = .ok (.invokestatic 108, 3) := by decide +kernel
theorem dL_395 : decode code 395 = .ok (.istore 5, 2) := by decide +kernel
theorem dL_397 : decode code 397 = .ok (.aload_n 2, 1) := by decide +kernel
theorem dL_398 : decode code 398 = .ok (.aload_n 0, 1) := by decide +kernel
theorem dL_399 : decode code 399 = .ok (.iload 4, 2) := by decide +kernel
theorem dL_401 : decode code 401 = .ok (.iconst 1, 1) := by decide +kernel
theorem dL_402 : decode code 402 = .ok (.iadd, 1) := by decide +kernel
theorem dL_403 : decode code 403 = .ok (.iaload, 1) := by decide +kernel
theorem dL_404 : decode code 404 = .ok (.aload_n 0, 1) := by decide +kernel
theorem dL_405 : decode code 405 = .ok (.iload 4, 2) := by decide +kernel
theorem dL_407 : decode code 407 = .ok (.iconst 2, 1) := by decide +kernel
theorem dL_408 : decode code 408 = .ok (.iadd, 1) := by decide +kernel
theorem dL_409 : decode code 409 = .ok (.iaload, 1) := by decide +kernel
theorem dL_410 : decode code 410 = .ok (.ifCond .eq 7, 3) := by decide +kernel
theorem dL_413 : decode code 413 = .ok (.iconst 1, 1) := by decide +kernel
theorem dL_414 : decode code 414 = .ok (.goto 4, 3) := by decide +kernel
theorem dL_417 : decode code 417 = .ok (.iconst 0, 1) := by decide +kernel
theorem dL_418 : decode code 418 = .ok (.aload_n 0, 1) := by decide +kernel
theorem dL_419 : decode code 419 = .ok (.iload 4, 2) := by decide +kernel
theorem dL_421 : decode code 421 = .ok (.iconst 3, 1) := by decide +kernel
theorem dL_422 : decode code 422 = .ok (.iadd, 1) := by decide +kernel
theorem dL_423 : decode code 423 = .ok (.iaload, 1) := by decide +kernel
theorem dL_424 : decode code 424 = .ok (.aload_n 0, 1) := by decide +kernel
theorem dL_425 : decode code 425 = .ok (.iload 4, 2) := by decide +kernel
theorem dL_427 : decode code 427 = .ok (.iconst 4, 1) := by decide +kernel
theorem dL_428 : decode code 428 = .ok (.iadd, 1) := by decide +kernel
theorem dL_429 : decode code 429 = .ok (.iaload, 1) := by decide +kernel
theorem dL_430 : decode code 430 = .ok (.aload_n 0, 1) := by decide +kernel
theorem dL_431 : decode code 431 = .ok (.iload 4, 2) := by decide +kernel
theorem dL_433 : decode code 433 = .ok (.iconst 5, 1) := by decide +kernel
theorem dL_434 : decode code 434 = .ok (.iadd, 1) := by decide +kernel
theorem dL_435 : decode code 435 = .ok (.iaload, 1) := by decide +kernel
theorem dL_436 : decode code 436 = .ok (.invokevirtual 111, 3) := by decide +kernel
theorem dL_439 : decode code 439 = .ok (.istore 6, 2) := by decide +kernel
theorem dL_441 : decode code 441 = .ok (.aload_n 2, 1) := by decide +kernel
theorem dL_442 : decode code 442 = .ok (.invokevirtual 96, 3) := by decide +kernel
theorem dL_445 : decode code 445 = .ok (.iload 5, 2) := by decide +kernel
theorem dL_447 : decode code 447 = .ok (.if_icmp .eq 5, 3) := by decide +kernel
theorem dL_450 : decode code 450 = .ok (.iconst 0, 1) := by decide +kernel
theorem dL_451 : decode code 451 = .ok (.ireturn, 1) := by decide +kernel
theorem dL_452 : decode code 452 = .ok (.iload 5, 2) := by decide +kernel
theorem dL_454 : decode code 454 = .ok (.ifCond .ne 15, 3) := by decide +kernel
theorem dL_457 : decode code 457 = .ok (.aload_n 3, 1) := by decide +kernel
theorem dL_458 : decode code 458 = .ok (.iconst 0, 1) := by decide +kernel
theorem dL_459 : decode code 459 = .ok (.laload, 1) := by decide +kernel
theorem dL_460 : decode code 460 = .ok (.iload 6, 2) := by decide +kernel
theorem dL_462 : decode code 462 = .ok (.i2l, 1) := by decide +kernel
theorem dL_463 : decode code 463 = .ok (.lcmp, 1) := by decide +kernel
theorem dL_464 : decode code 464 = .ok (.ifCond .eq 5, 3) := by decide +kernel
end LAW5603
