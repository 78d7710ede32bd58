theorem d_LAW_law_376 : decode mi_LAW_law.2.1 376 = .ok (.iconst 1, 1) := by decide +kernel
theorem d_LAW_law_377 : decode mi_LAW_law.2.1 377 = .ok (.iadd, 1) := by decide +kernel
theorem d_LAW_law_378 : decode mi_LAW_law.2.1 378 = .ok (.iaload, 1) := by decide +kernel
theorem d_LAW_law_379 : decode mi_LAW_law.2.1 379 = .ok (.invokevirtual 52, 3) := by decide +kernel
theorem d_LAW_law_382 : decode mi_LAW_law.2.1 382 = .ok (.aload_n 2, 1) := by decide +kernel
theorem d_LAW_law_383 : decode mi_LAW_law.2.1 383 = .ok (.aload_n 0, 1) := by decide +kernel
theorem d_LAW_law_384 : decode mi_LAW_law.2.1 384 = .ok (.iload_n 3, 1) := by decide +kernel
theorem d_LAW_law_385 : decode mi_LAW_law.2.1 385 = .ok (.iconst 1, 1) := by decide +kernel
theorem d_LAW_law_386 : decode mi_LAW_law.2.1 386 = .ok (.iadd, 1) := by decide +kernel
theorem d_LAW_law_387 : decode mi_LAW_law.2.1 387 = .ok (.iaload, 1) := by decide +kernel
theorem d_LAW_law_388 : decode mi_LAW_law.2.1 388 = .ok (.invokevirtual 56, 3) := by decide +kernel
theorem d_LAW_law_391 : decode mi_LAW_law.2.1 391 = .ok (.if_icmp .eq (384), 3) := by decide +kernel
theorem d_LAW_law_394 : decode mi_LAW_law.2.1 394 = .ok (.iconst 0, 1) := by decide +kernel
theorem d_LAW_law_395 : decode mi_LAW_law.2.1 395 = .ok (.ireturn, 1) := by decide +kernel
theorem d_LAW_law_396 : decode mi_LAW_law.2.1 396 = .ok (.aload_n 1, 1) := by decide +kernel
theorem d_LAW_law_397 : decode mi_LAW_law.2.1 397 = .ok (.aload_n 0, 1) := by decide +kernel
theorem d_LAW_law_398 : decode mi_LAW_law.2.1 398 = .ok (.iload_n 3, 1) := by decide +kernel
theorem d_LAW_law_399 : decode mi_LAW_law.2.1 399 = .ok (.iconst 1, 1) := by decide +kernel
theorem d_LAW_law_400 : decode mi_LAW_law.2.1 400 = .ok (.iadd, 1) := by decide +kernel
theorem d_LAW_law_401 : decode mi_LAW_law.2.1 401 = .ok (.iaload, 1) := by decide +kernel
theorem d_LAW_law_402 : decode mi_LAW_law.2.1 402 = .ok (.invokevirtual 57, 3) := by decide +kernel
theorem d_LAW_law_405 : decode mi_LAW_law.2.1 405 = .ok (.aload_n 2, 1) := by decide +kernel
theorem d_LAW_law_406 : decode mi_LAW_law.2.1 406 = .ok (.aload_n 0, 1) := by decide +kernel
theorem d_LAW_law_407 : decode mi_LAW_law.2.1 407 = .ok (.iload_n 3, 1) := by decide +kernel
theorem d_LAW_law_408 : decode mi_LAW_law.2.1 408 = .ok (.iconst 1, 1) := by decide +kernel
theorem d_LAW_law_409 : decode mi_LAW_law.2.1 409 = .ok (.iadd, 1) := by decide +kernel
theorem d_LAW_law_410 : decode mi_LAW_law.2.1 410 = .ok (.iaload, 1) := by decide +kernel
theorem d_LAW_law_411 : decode mi_LAW_law.2.1 411 = .ok (.invokevirtual 60, 3) := by decide +kernel
theorem d_LAW_law_414 : decode mi_LAW_law.2.1 414 = .ok (.if_icmp .eq (361), 3) := by decide +kernel
theorem d_LAW_law_417 : decode mi_LAW_law.2.1 417 = .ok (.iconst 0, 1) := by decide +kernel
theorem d_LAW_law_418 : decode mi_LAW_law.2.1 418 = .ok (.ireturn, 1) := by decide +kernel
theorem d_LAW_law_419 : decode mi_LAW_law.2.1 419 = .ok (.aload_n 1, 1) := by decide +kernel
theorem d_LAW_law_420 : decode mi_LAW_law.2.1 420 = .ok (.aload_n 0, 1) := by decide +kernel
theorem d_LAW_law_421 : decode mi_LAW_law.2.1 421 = .ok (.iload_n 3, 1) := by decide +kernel
theorem d_LAW_law_422 : decode mi_LAW_law.2.1 422 = .ok (.iconst 1, 1) := by decide +kernel
theorem d_LAW_law_423 : decode mi_LAW_law.2.1 423 = .ok (.iadd, 1) := by decide +kernel
theorem d_LAW_law_424 : decode mi_LAW_law.2.1 424 = .ok (.iaload, 1) := by decide +kernel
theorem d_LAW_law_425 : decode mi_LAW_law.2.1 425 = .ok (.aload_n 0, 1) := by decide +kernel
theorem d_LAW_law_426 : decode mi_LAW_law.2.1 426 = .ok (.iload_n 3, 1) := by decide +kernel
theorem d_LAW_law_427 : decode mi_LAW_law.2.1 427 = .ok (.iconst 2, 1) := by decide +kernel
theorem d_LAW_law_428 : decode mi_LAW_law.2.1 428 = .ok (.iadd, 1) := by decide +kernel
theorem d_LAW_law_429 : decode mi_LAW_law.2.1 429 = .ok (.iaload, 1) := by decide +kernel
theorem d_LAW_law_430 : decode mi_LAW_law.2.1 430 = .ok (.invokevirtual 61, 3) := by decide +kernel
theorem d_LAW_law_433 : decode mi_LAW_law.2.1 433 = .ok (.aload_n 2, 1) := by decide +kernel
theorem d_LAW_law_434 : decode mi_LAW_law.2.1 434 = .ok (.aload_n 0, 1) := by decide +kernel
theorem d_LAW_law_435 : decode mi_LAW_law.2.1 435 = .ok (.iload_n 3, 1) := by decide +kernel
theorem d_LAW_law_436 : decode mi_LAW_law.2.1 436 = .ok (.iconst 1, 1) := by decide +kernel
theorem d_LAW_law_437 : decode mi_LAW_law.2.1 437 = .ok (.iadd, 1) := by decide +kernel
theorem d_LAW_law_438 : decode mi_LAW_law.2.1 438 = .ok (.iaload, 1) := by decide +kernel
theorem d_LAW_law_439 : decode mi_LAW_law.2.1 439 = .ok (.aload_n 0, 1) := by decide +kernel
theorem d_LAW_law_440 : decode mi_LAW_law.2.1 440 = .ok (.iload_n 3, 1) := by decide +kernel
theorem d_LAW_law_441 : decode mi_LAW_law.2.1 441 = .ok (.iconst 2, 1) := by decide +kernel
theorem d_LAW_law_442 : decode mi_LAW_law.2.1 442 = .ok (.iadd, 1) := by decide +kernel
theorem d_LAW_law_443 : decode mi_LAW_law.2.1 443 = .ok (.iaload, 1) := by decide +kernel
theorem d_LAW_law_444 : decode mi_LAW_law.2.1 444 = .ok (.invokevirtual 65, 3) := by decide +kernel
theorem d_LAW_law_447 : decode mi_LAW_law.2.1 447 = .ok (.if_icmp .eq (328), 3) := by decide +kernel
theorem d_LAW_law_450 : decode mi_LAW_law.2.1 450 = .ok (.iconst 0, 1) := by decide +kernel
theorem d_LAW_law_451 : decode mi_LAW_law.2.1 451 = .ok (.ireturn, 1) := by decide +kernel
theorem d_LAW_law_452 : decode mi_LAW_law.2.1 452 = .ok (.aload_n 1, 1) := by decide +kernel
theorem d_LAW_law_453 : decode mi_LAW_law.2.1 453 = .ok (.aload_n 0, 1) := by decide +kernel
