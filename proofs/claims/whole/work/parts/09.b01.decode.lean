theorem dl_316 : decode code 316 = .ok (.if_icmp .eq 735, 3) := by decide +kernel
theorem dl_321 : decode code 321 = .ok (.aload_n 1, 1) := by decide +kernel
theorem ad_322 : ArgC 322 1 := by decide +kernel
theorem ad_327 : ArgC 327 2 := by decide +kernel
theorem dl_332 : decode code 332 = .ok (.invokevirtual 36, 3) := by decide +kernel
theorem dl_335 : decode code 335 = .ok (.aload_n 2, 1) := by decide +kernel
theorem ad_336 : ArgC 336 1 := by decide +kernel
theorem ad_341 : ArgC 341 2 := by decide +kernel
theorem dl_346 : decode code 346 = .ok (.invokevirtual 40, 3) := by decide +kernel
theorem dl_349 : decode code 349 = .ok (.lcmp, 1) := by decide +kernel
theorem dl_350 : decode code 350 = .ok (.ifCond .eq 701, 3) := by decide +kernel
theorem dl_355 : decode code 355 = .ok (.aload_n 1, 1) := by decide +kernel
theorem ad_356 : ArgC 356 1 := by decide +kernel
theorem ad_361 : ArgC 361 2 := by decide +kernel
theorem ad_366 : ArgC 366 3 := by decide +kernel
theorem ad_371 : ArgC 371 4 := by decide +kernel
theorem ad_376 : ArgC 376 5 := by decide +kernel
theorem dl_381 : decode code 381 = .ok (.invokevirtual 41, 3) := by decide +kernel
theorem dl_384 : decode code 384 = .ok (.aload_n 2, 1) := by decide +kernel
theorem ad_385 : ArgC 385 1 := by decide +kernel
theorem ad_390 : ArgC 390 2 := by decide +kernel
theorem ad_395 : ArgC 395 3 := by decide +kernel
theorem ad_400 : ArgC 400 4 := by decide +kernel
theorem ad_405 : ArgC 405 5 := by decide +kernel
theorem dl_410 : decode code 410 = .ok (.invokevirtual 45, 3) := by decide +kernel
theorem dl_413 : decode code 413 = .ok (.if_icmp .eq 638, 3) := by decide +kernel
theorem dl_418 : decode code 418 = .ok (.aload_n 1, 1) := by decide +kernel
theorem ad_419 : ArgC 419 1 := by decide +kernel
theorem dl_424 : decode code 424 = .ok (.invokevirtual 46, 3) := by decide +kernel
theorem dl_427 : decode code 427 = .ok (.aload_n 2, 1) := by decide +kernel
theorem ad_428 : ArgC 428 1 := by decide +kernel
theorem dl_433 : decode code 433 = .ok (.invokevirtual 49, 3) := by decide +kernel
theorem dl_436 : decode code 436 = .ok (.if_icmp .eq 615, 3) := by decide +kernel
theorem dl_441 : decode code 441 = .ok (.aload_n 1, 1) := by decide +kernel
theorem dl_442 : decode code 442 = .ok (.invokevirtual 50, 3) := by decide +kernel
theorem dl_445 : decode code 445 = .ok (.aload_n 2, 1) := by decide +kernel
theorem dl_446 : decode code 446 = .ok (.invokevirtual 54, 3) := by decide +kernel
theorem dl_449 : decode code 449 = .ok (.if_icmp .eq 602, 3) := by decide +kernel
theorem dl_454 : decode code 454 = .ok (.aload_n 1, 1) := by decide +kernel
theorem dl_455 : decode code 455 = .ok (.invokevirtual 55, 3) := by decide +kernel
theorem dl_458 : decode code 458 = .ok (.aload_n 2, 1) := by decide +kernel
theorem dl_459 : decode code 459 = .ok (.invokevirtual 58, 3) := by decide +kernel
theorem dl_462 : decode code 462 = .ok (.if_icmp .eq 589, 3) := by decide +kernel
theorem dl_467 : decode code 467 = .ok (.aload_n 1, 1) := by decide +kernel
theorem ad_468 : ArgC 468 1 := by decide +kernel
theorem dl_473 : decode code 473 = .ok (.invokevirtual 59, 3) := by decide +kernel
theorem dl_476 : decode code 476 = .ok (.aload_n 2, 1) := by decide +kernel
theorem ad_477 : ArgC 477 1 := by decide +kernel
theorem dl_482 : decode code 482 = .ok (.invokevirtual 62, 3) := by decide +kernel
theorem dl_485 : decode code 485 = .ok (.if_icmp .eq 566, 3) := by decide +kernel
theorem dl_490 : decode code 490 = .ok (.aload_n 1, 1) := by decide +kernel
theorem ad_491 : ArgC 491 1 := by decide +kernel
theorem dl_496 : decode code 496 = .ok (.invokevirtual 63, 3) := by decide +kernel
theorem dl_499 : decode code 499 = .ok (.aload_n 2, 1) := by decide +kernel
theorem ad_500 : ArgC 500 1 := by decide +kernel
theorem dl_505 : decode code 505 = .ok (.invokevirtual 66, 3) := by decide +kernel
theorem dl_508 : decode code 508 = .ok (.if_icmp .eq 543, 3) := by decide +kernel
theorem dl_513 : decode code 513 = .ok (.aload_n 1, 1) := by decide +kernel
theorem ad_514 : ArgC 514 1 := by decide +kernel
theorem ad_519 : ArgC 519 2 := by decide +kernel
theorem dl_524 : decode code 524 = .ok (.invokevirtual 67, 3) := by decide +kernel
theorem dl_527 : decode code 527 = .ok (.aload_n 2, 1) := by decide +kernel
