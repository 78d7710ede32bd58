theorem d_LAW_law_454 : decode mi_LAW_law.2.1 454 = .ok (.iload_n 3, 1) := by decide +kernel
theorem d_LAW_law_455 : decode mi_LAW_law.2.1 455 = .ok (.iconst 1, 1) := by decide +kernel
theorem d_LAW_law_456 : decode mi_LAW_law.2.1 456 = .ok (.iadd, 1) := by decide +kernel
theorem d_LAW_law_457 : decode mi_LAW_law.2.1 457 = .ok (.iaload, 1) := by decide +kernel
theorem d_LAW_law_458 : decode mi_LAW_law.2.1 458 = .ok (.aload_n 0, 1) := by decide +kernel
theorem d_LAW_law_459 : decode mi_LAW_law.2.1 459 = .ok (.iload_n 3, 1) := by decide +kernel
theorem d_LAW_law_460 : decode mi_LAW_law.2.1 460 = .ok (.iconst 2, 1) := by decide +kernel
theorem d_LAW_law_461 : decode mi_LAW_law.2.1 461 = .ok (.iadd, 1) := by decide +kernel
theorem d_LAW_law_462 : decode mi_LAW_law.2.1 462 = .ok (.iaload, 1) := by decide +kernel
theorem d_LAW_law_463 : decode mi_LAW_law.2.1 463 = .ok (.aload_n 0, 1) := by decide +kernel
theorem d_LAW_law_464 : decode mi_LAW_law.2.1 464 = .ok (.iload_n 3, 1) := by decide +kernel
theorem d_LAW_law_465 : decode mi_LAW_law.2.1 465 = .ok (.iconst 3, 1) := by decide +kernel
theorem d_LAW_law_466 : decode mi_LAW_law.2.1 466 = .ok (.iadd, 1) := by decide +kernel
theorem d_LAW_law_467 : decode mi_LAW_law.2.1 467 = .ok (.iaload, 1) := by decide +kernel
theorem d_LAW_law_468 : decode mi_LAW_law.2.1 468 = .ok (.invokevirtual 66, 3) := by decide +kernel
theorem d_LAW_law_471 : decode mi_LAW_law.2.1 471 = .ok (.aload_n 2, 1) := by decide +kernel
theorem d_LAW_law_472 : decode mi_LAW_law.2.1 472 = .ok (.aload_n 0, 1) := by decide +kernel
theorem d_LAW_law_473 : decode mi_LAW_law.2.1 473 = .ok (.iload_n 3, 1) := by decide +kernel
theorem d_LAW_law_474 : decode mi_LAW_law.2.1 474 = .ok (.iconst 1, 1) := by decide +kernel
theorem d_LAW_law_475 : decode mi_LAW_law.2.1 475 = .ok (.iadd, 1) := by decide +kernel
theorem d_LAW_law_476 : decode mi_LAW_law.2.1 476 = .ok (.iaload, 1) := by decide +kernel
theorem d_LAW_law_477 : decode mi_LAW_law.2.1 477 = .ok (.aload_n 0, 1) := by decide +kernel
theorem d_LAW_law_478 : decode mi_LAW_law.2.1 478 = .ok (.iload_n 3, 1) := by decide +kernel
theorem d_LAW_law_479 : decode mi_LAW_law.2.1 479 = .ok (.iconst 2, 1) := by decide +kernel
theorem d_LAW_law_480 : decode mi_LAW_law.2.1 480 = .ok (.iadd, 1) := by decide +kernel
theorem d_LAW_law_481 : decode mi_LAW_law.2.1 481 = .ok (.iaload, 1) := by decide +kernel
theorem d_LAW_law_482 : decode mi_LAW_law.2.1 482 = .ok (.aload_n 0, 1) := by decide +kernel
theorem d_LAW_law_483 : decode mi_LAW_law.2.1 483 = .ok (.iload_n 3, 1) := by decide +kernel
theorem d_LAW_law_484 : decode mi_LAW_law.2.1 484 = .ok (.iconst 3, 1) := by decide +kernel
theorem d_LAW_law_485 : decode mi_LAW_law.2.1 485 = .ok (.iadd, 1) := by decide +kernel
theorem d_LAW_law_486 : decode mi_LAW_law.2.1 486 = .ok (.iaload, 1) := by decide +kernel
theorem d_LAW_law_487 : decode mi_LAW_law.2.1 487 = .ok (.invokevirtual 70, 3) := by decide +kernel
theorem d_LAW_law_490 : decode mi_LAW_law.2.1 490 = .ok (.if_icmp .eq (285), 3) := by decide +kernel
theorem d_LAW_law_493 : decode mi_LAW_law.2.1 493 = .ok (.iconst 0, 1) := by decide +kernel
theorem d_LAW_law_494 : decode mi_LAW_law.2.1 494 = .ok (.ireturn, 1) := by decide +kernel
theorem d_LAW_law_495 : decode mi_LAW_law.2.1 495 = .ok (.aload_n 1, 1) := by decide +kernel
theorem d_LAW_law_496 : decode mi_LAW_law.2.1 496 = .ok (.aload_n 0, 1) := by decide +kernel
theorem d_LAW_law_497 : decode mi_LAW_law.2.1 497 = .ok (.iload_n 3, 1) := by decide +kernel
theorem d_LAW_law_498 : decode mi_LAW_law.2.1 498 = .ok (.iconst 1, 1) := by decide +kernel
theorem d_LAW_law_499 : decode mi_LAW_law.2.1 499 = .ok (.iadd, 1) := by decide +kernel
theorem d_LAW_law_500 : decode mi_LAW_law.2.1 500 = .ok (.iaload, 1) := by decide +kernel
theorem d_LAW_law_501 : decode mi_LAW_law.2.1 501 = .ok (.aload_n 0, 1) := by decide +kernel
theorem d_LAW_law_502 : decode mi_LAW_law.2.1 502 = .ok (.iload_n 3, 1) := by decide +kernel
theorem d_LAW_law_503 : decode mi_LAW_law.2.1 503 = .ok (.iconst 2, 1) := by decide +kernel
theorem d_LAW_law_504 : decode mi_LAW_law.2.1 504 = .ok (.iadd, 1) := by decide +kernel
theorem d_LAW_law_505 : decode mi_LAW_law.2.1 505 = .ok (.iaload, 1) := by decide +kernel
theorem d_LAW_law_506 : decode mi_LAW_law.2.1 506 = .ok (.invokevirtual 71, 3) := by decide +kernel
theorem d_LAW_law_509 : decode mi_LAW_law.2.1 509 = .ok (.aload_n 2, 1) := by decide +kernel
theorem d_LAW_law_510 : decode mi_LAW_law.2.1 510 = .ok (.aload_n 0, 1) := by decide +kernel
theorem d_LAW_law_511 : decode mi_LAW_law.2.1 511 = .ok (.iload_n 3, 1) := by decide +kernel
theorem d_LAW_law_512 : decode mi_LAW_law.2.1 512 = .ok (.iconst 1, 1) := by decide +kernel
theorem d_LAW_law_513 : decode mi_LAW_law.2.1 513 = .ok (.iadd, 1) := by decide +kernel
theorem d_LAW_law_514 : decode mi_LAW_law.2.1 514 = .ok (.iaload, 1) := by decide +kernel
theorem d_LAW_law_515 : decode mi_LAW_law.2.1 515 = .ok (.aload_n 0, 1) := by decide +kernel
theorem d_LAW_law_516 : decode mi_LAW_law.2.1 516 = .ok (.iload_n 3, 1) := by decide +kernel
theorem d_LAW_law_517 : decode mi_LAW_law.2.1 517 = .ok (.iconst 2, 1) := by decide +kernel
theorem d_LAW_law_518 : decode mi_LAW_law.2.1 518 = .ok (.iadd, 1) := by decide +kernel
theorem d_LAW_law_519 : decode mi_LAW_law.2.1 519 = .ok (.iaload, 1) := by decide +kernel
theorem d_LAW_law_520 : decode mi_LAW_law.2.1 520 = .ok (.invokevirtual 74, 3) := by decide +kernel
theorem d_LAW_law_523 : decode mi_LAW_law.2.1 523 = .ok (.if_icmp .eq (252), 3) := by decide +kernel
