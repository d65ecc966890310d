theorem zd_Law_law_361 : decode zc_Law_law 361 = .ok (.iadd, 1) := by decide +kernel
theorem zd_Law_law_362 : decode zc_Law_law 362 = .ok (.iaload, 1) := by decide +kernel
theorem zd_Law_law_363 : decode zc_Law_law 363 = .ok (.aload_n 3, 1) := by decide +kernel
theorem zd_Law_law_364 : decode zc_Law_law 364 = .ok (.invokestatic 89, 3) := by decide +kernel
theorem zd_Law_law_367 : decode zc_Law_law 367 = .ok (.istore 5, 2) := by decide +kernel
theorem zd_Law_law_369 : decode zc_Law_law 369 = .ok (.aload_n 2, 1) := by decide +kernel
theorem zd_Law_law_370 : decode zc_Law_law 370 = .ok (.aload_n 0, 1) := by decide +kernel
theorem zd_Law_law_371 : decode zc_Law_law 371 = .ok (.iload 4, 2) := by decide +kernel
theorem zd_Law_law_373 : decode zc_Law_law 373 = .ok (.iconst 1, 1) := by decide +kernel
theorem zd_Law_law_374 : decode zc_Law_law 374 = .ok (.iadd, 1) := by decide +kernel
theorem zd_Law_law_375 : decode zc_Law_law 375 = .ok (.iaload, 1) := by decide +kernel
theorem zd_Law_law_376 : decode zc_Law_law 376 = .ok (.invokevirtual 91, 3) := by decide +kernel
theorem zd_Law_law_379 : decode zc_Law_law 379 = .ok (.istore 6, 2) := by decide +kernel
theorem zd_Law_law_381 : decode zc_Law_law 381 = .ok (.aload_n 2, 1) := by decide +kernel
theorem zd_Law_law_382 : decode zc_Law_law 382 = .ok (.invokevirtual 75, 3) := by decide +kernel
theorem zd_Law_law_385 : decode zc_Law_law 385 = .ok (.iload 5, 2) := by decide +kernel
theorem zd_Law_law_387 : decode zc_Law_law 387 = .ok (.if_icmp .eq 5, 3) := by decide +kernel
theorem zd_Law_law_390 : decode zc_Law_law 390 = .ok (.iconst 0, 1) := by decide +kernel
theorem zd_Law_law_391 : decode zc_Law_law 391 = .ok (.ireturn, 1) := by decide +kernel
theorem zd_Law_law_392 : decode zc_Law_law 392 = .ok (.iload 5, 2) := by decide +kernel
theorem zd_Law_law_394 : decode zc_Law_law 394 = .ok (.ifCond .ne 15, 3) := by decide +kernel
theorem zd_Law_law_397 : decode zc_Law_law 397 = .ok (.aload_n 3, 1) := by decide +kernel
theorem zd_Law_law_398 : decode zc_Law_law 398 = .ok (.iconst 0, 1) := by decide +kernel
theorem zd_Law_law_399 : decode zc_Law_law 399 = .ok (.laload, 1) := by decide +kernel
theorem zd_Law_law_400 : decode zc_Law_law 400 = .ok (.iload 6, 2) := by decide +kernel
theorem zd_Law_law_402 : decode zc_Law_law 402 = .ok (.i2l, 1) := by decide +kernel
theorem zd_Law_law_403 : decode zc_Law_law 403 = .ok (.lcmp, 1) := by decide +kernel
theorem zd_Law_law_404 : decode zc_Law_law 404 = .ok (.ifCond .eq 5, 3) := by decide +kernel
theorem zd_Law_law_407 : decode zc_Law_law 407 = .ok (.iconst 0, 1) := by decide +kernel
theorem zd_Law_law_408 : decode zc_Law_law 408 = .ok (.ireturn, 1) := by decide +kernel
theorem zd_Law_law_409 : decode zc_Law_law 409 = .ok (.goto 465, 3) := by decide +kernel
theorem zd_Law_law_412 : decode zc_Law_law 412 = .ok (.aload_n 1, 1) := by decide +kernel
theorem zd_Law_law_413 : decode zc_Law_law 413 = .ok (.aload_n 3, 1) := by decide +kernel
theorem zd_Law_law_414 : decode zc_Law_law 414 = .ok (.invokestatic 92, 3) := by decide +kernel
theorem zd_Law_law_417 : decode zc_Law_law 417 = .ok (.istore 5, 2) := by decide +kernel
theorem zd_Law_law_419 : decode zc_Law_law 419 = .ok (.aload_n 2, 1) := by decide +kernel
theorem zd_Law_law_420 : decode zc_Law_law 420 = .ok (.invokevirtual 94, 3) := by decide +kernel
theorem zd_Law_law_423 : decode zc_Law_law 423 = .ok (.istore 6, 2) := by decide +kernel
theorem zd_Law_law_425 : decode zc_Law_law 425 = .ok (.aload_n 2, 1) := by decide +kernel
theorem zd_Law_law_426 : decode zc_Law_law 426 = .ok (.invokevirtual 75, 3) := by decide +kernel
theorem zd_Law_law_429 : decode zc_Law_law 429 = .ok (.iload 5, 2) := by decide +kernel
theorem zd_Law_law_431 : decode zc_Law_law 431 = .ok (.if_icmp .eq 5, 3) := by decide +kernel
theorem zd_Law_law_434 : decode zc_Law_law 434 = .ok (.iconst 0, 1) := by decide +kernel
theorem zd_Law_law_435 : decode zc_Law_law 435 = .ok (.ireturn, 1) := by decide +kernel
theorem zd_Law_law_436 : decode zc_Law_law 436 = .ok (.iload 5, 2) := by decide +kernel
theorem zd_Law_law_438 : decode zc_Law_law 438 = .ok (.ifCond .ne 15, 3) := by decide +kernel
theorem zd_Law_law_441 : decode zc_Law_law 441 = .ok (.aload_n 3, 1) := by decide +kernel
theorem zd_Law_law_442 : decode zc_Law_law 442 = .ok (.iconst 0, 1) := by decide +kernel
theorem zd_Law_law_443 : decode zc_Law_law 443 = .ok (.laload, 1) := by decide +kernel
theorem zd_Law_law_444 : decode zc_Law_law 444 = .ok (.iload 6, 2) := by decide +kernel
theorem zd_Law_law_446 : decode zc_Law_law 446 = .ok (.i2l, 1) := by decide +kernel
theorem zd_Law_law_447 : decode zc_Law_law 447 = .ok (.lcmp, 1) := by decide +kernel
theorem zd_Law_law_448 : decode zc_Law_law 448 = .ok (.ifCond .eq 5, 3) := by decide +kernel
theorem zd_Law_law_451 : decode zc_Law_law 451 = .ok (.iconst 0, 1) := by decide +kernel
theorem zd_Law_law_452 : decode zc_Law_law 452 = .ok (.ireturn, 1) := by decide +kernel
theorem zd_Law_law_453 : decode zc_Law_law 453 = .ok (.goto 421, 3) := by decide +kernel
theorem zd_Law_law_456 : decode zc_Law_law 456 = .ok (.aload_n 1, 1) := by decide +kernel
theorem zd_Law_law_457 : decode zc_Law_law 457 = .ok (.aload_n 3, 1) := by decide +kernel
theorem zd_Law_law_458 : decode zc_Law_law 458 = .ok (.invokestatic 95, 3) := by decide +kernel
theorem zd_Law_law_461 : decode zc_Law_law 461 = .ok (.istore 5, 2) := by decide +kernel
