theorem dL_456 : decode code 456 = .ok (.iload_n 3, 1) := by decide +kernel
theorem dL_457 : decode code 457 = .ok (.iconst 1, 1) := by decide +kernel
theorem dL_458 : decode code 458 = .ok (.iadd, 1) := by decide +kernel
theorem dL_459 : decode code 459 = .ok (.iaload, 1) := by decide +kernel
theorem dL_460 : decode code 460 = .ok (.aload_n 0, 1) := by decide +kernel
theorem dL_461 : decode code 461 = .ok (.iload_n 3, 1) := by decide +kernel
theorem dL_462 : decode code 462 = .ok (.iconst 2, 1) := by decide +kernel
theorem dL_463 : decode code 463 = .ok (.iadd, 1) := by decide +kernel
theorem dL_464 : decode code 464 = .ok (.iaload, 1) := by decide +kernel
theorem dL_465 : decode code 465 = .ok (.invokevirtual 62, 3) := by decide +kernel
theorem dL_468 : decode code 468 = .ok (.if_icmp .eq 536, 3) := by decide +kernel
theorem dL_471 : decode code 471 = .ok (.iconst 0, 1) := by decide +kernel
theorem dL_472 : decode code 472 = .ok (.ireturn, 1) := by decide +kernel
theorem dL_473 : decode code 473 = .ok (.aload_n 1, 1) := by decide +kernel
theorem dL_474 : decode code 474 = .ok (.aload_n 0, 1) := by decide +kernel
theorem dL_475 : decode code 475 = .ok (.iload_n 3, 1) := by decide +kernel
theorem dL_476 : decode code 476 = .ok (.iconst 1, 1) := by decide +kernel
theorem dL_477 : decode code 477 = .ok (.iadd, 1) := by decide +kernel
theorem dL_478 : decode code 478 = .ok (.iaload, 1) := by decide +kernel
theorem dL_479 : decode code 479 = .ok (.aload_n 0, 1) := by decide +kernel
theorem dL_480 : decode code 480 = .ok (.iload_n 3, 1) := by decide +kernel
theorem dL_481 : decode code 481 = .ok (.iconst 2, 1) := by decide +kernel
theorem dL_482 : decode code 482 = .ok (.iadd, 1) := by decide +kernel
theorem dL_483 : decode code 483 = .ok (.iaload, 1) := by decide +kernel
theorem dL_484 : decode code 484 = .ok (.invokevirtual 63, 3) := by decide +kernel
theorem dL_487 : decode code 487 = .ok (.aload_n 2, 1) := by decide +kernel
theorem dL_488 : decode code 488 = .ok (.aload_n 0, 1) := by decide +kernel
theorem dL_489 : decode code 489 = .ok (.iload_n 3, 1) := by decide +kernel
theorem dL_490 : decode code 490 = .ok (.iconst 1, 1) := by decide +kernel
theorem dL_491 : decode code 491 = .ok (.iadd, 1) := by decide +kernel
theorem dL_492 : decode code 492 = .ok (.iaload, 1) := by decide +kernel
theorem dL_493 : decode code 493 = .ok (.aload_n 0, 1) := by decide +kernel
theorem dL_494 : decode code 494 = .ok (.iload_n 3, 1) := by decide +kernel
theorem dL_495 : decode code 495 = .ok (.iconst 2, 1) := by decide +kernel
theorem dL_496 : decode code 496 = .ok (.iadd, 1) := by decide +kernel
theorem dL_497 : decode code 497 = .ok (.iaload, 1) := by decide +kernel
theorem dL_498 : decode code 498 = .ok (.invokevirtual 66, 3) := by decide +kernel
theorem dL_501 : decode code 501 = .ok (.if_icmp .eq 503, 3) := by decide +kernel
theorem dL_504 : decode code 504 = .ok (.iconst 0, 1) := by decide +kernel
theorem dL_505 : decode code 505 = .ok (.ireturn, 1) := by decide +kernel
theorem dL_506 : decode code 506 = .ok (.aload_n 1, 1) := by decide +kernel
theorem dL_507 : decode code 507 = .ok (.aload_n 0, 1) := by decide +kernel
theorem dL_508 : decode code 508 = .ok (.iload_n 3, 1) := by decide +kernel
theorem dL_509 : decode code 509 = .ok (.iconst 1, 1) := by decide +kernel
theorem dL_510 : decode code 510 = .ok (.iadd, 1) := by decide +kernel
theorem dL_511 : decode code 511 = .ok (.iaload, 1) := by decide +kernel
theorem dL_512 : decode code 512 = .ok (.aload_n 0, 1) := by decide +kernel
theorem dL_513 : decode code 513 = .ok (.iload_n 3, 1) := by decide +kernel
theorem dL_514 : decode code 514 = .ok (.iconst 2, 1) := by decide +kernel
theorem dL_515 : decode code 515 = .ok (.iadd, 1) := by decide +kernel
