theorem d_L_law_454 : decode (qB q_L_law) 454 = .ok (.ireturn, 1) := by decide +kernel
theorem d_L_law_455 : decode (qB q_L_law) 455 = .ok (.aload_n 1, 1) := by decide +kernel
theorem d_L_law_456 : decode (qB q_L_law) 456 = .ok (.aload_n 0, 1) := by decide +kernel
theorem d_L_law_457 : decode (qB q_L_law) 457 = .ok (.iload_n 3, 1) := by decide +kernel
theorem d_L_law_458 : decode (qB q_L_law) 458 = .ok (.iconst 1, 1) := by decide +kernel
theorem d_L_law_459 : decode (qB q_L_law) 459 = .ok (.iadd, 1) := by decide +kernel
theorem d_L_law_460 : decode (qB q_L_law) 460 = .ok (.iaload, 1) := by decide +kernel
theorem d_L_law_461 : decode (qB q_L_law) 461 = .ok (.aload_n 0, 1) := by decide +kernel
theorem d_L_law_462 : decode (qB q_L_law) 462 = .ok (.iload_n 3, 1) := by decide +kernel
theorem d_L_law_463 : decode (qB q_L_law) 463 = .ok (.iconst 2, 1) := by decide +kernel
theorem d_L_law_464 : decode (qB q_L_law) 464 = .ok (.iadd, 1) := by decide +kernel
theorem d_L_law_465 : decode (qB q_L_law) 465 = .ok (.iaload, 1) := by decide +kernel
theorem d_L_law_466 : decode (qB q_L_law) 466 = .ok (.aload_n 0, 1) := by decide +kernel
theorem d_L_law_467 : decode (qB q_L_law) 467 = .ok (.iload_n 3, 1) := by decide +kernel
theorem d_L_law_468 : decode (qB q_L_law) 468 = .ok (.iconst 3, 1) := by decide +kernel
theorem d_L_law_469 : decode (qB q_L_law) 469 = .ok (.iadd, 1) := by decide +kernel
theorem d_L_law_470 : decode (qB q_L_law) 470 = .ok (.iaload, 1) := by decide +kernel
theorem d_L_law_471 : decode (qB q_L_law) 471 = .ok (.aload_n 0, 1) := by decide +kernel
theorem d_L_law_472 : decode (qB q_L_law) 472 = .ok (.iload_n 3, 1) := by decide +kernel
theorem d_L_law_473 : decode (qB q_L_law) 473 = .ok (.iconst 4, 1) := by decide +kernel
theorem d_L_law_474 : decode (qB q_L_law) 474 = .ok (.iadd, 1) := by decide +kernel
theorem d_L_law_475 : decode (qB q_L_law) 475 = .ok (.iaload, 1) := by decide +kernel
theorem d_L_law_476 : decode (qB q_L_law) 476 = .ok (.aload_n 0, 1) := by decide +kernel
theorem d_L_law_477 : decode (qB q_L_law) 477 = .ok (.iload_n 3, 1) := by decide +kernel
theorem d_L_law_478 : decode (qB q_L_law) 478 = .ok (.iconst 5, 1) := by decide +kernel
theorem d_L_law_479 : decode (qB q_L_law) 479 = .ok (.iadd, 1) := by decide +kernel
theorem d_L_law_480 : decode (qB q_L_law) 480 = .ok (.iaload, 1) := by decide +kernel
theorem d_L_law_481 : decode (qB q_L_law) 481 = .ok (.i2l, 1) := by decide +kernel
theorem d_L_law_482 : decode (qB q_L_law) 482 = .ok (.bipush 32, 2) := by decide +kernel
theorem d_L_law_484 : decode (qB q_L_law) 484 = .ok (.lshl, 1) := by decide +kernel
theorem d_L_law_485 : decode (qB q_L_law) 485 = .ok (.aload_n 0, 1) := by decide +kernel
theorem d_L_law_486 : decode (qB q_L_law) 486 = .ok (.iload_n 3, 1) := by decide +kernel
theorem d_L_law_487 : decode (qB q_L_law) 487 = .ok (.bipush 6, 2) := by decide +kernel
theorem d_L_law_489 : decode (qB q_L_law) 489 = .ok (.iadd, 1) := by decide +kernel
theorem d_L_law_490 : decode (qB q_L_law) 490 = .ok (.iaload, 1) := by decide +kernel
theorem d_L_law_491 : decode (qB q_L_law) 491 = .ok (.i2l, 1) := by decide +kernel
theorem d_L_law_492 : decode (qB q_L_law) 492 = .ok (.ldc2_w 35, 3) := by decide +kernel
theorem d_L_law_495 : decode (qB q_L_law) 495 = .ok (.land, 1) := by decide +kernel
theorem d_L_law_496 : decode (qB q_L_law) 496 = .ok (.lor, 1) := by decide +kernel
theorem d_L_law_497 : decode (qB q_L_law) 497 = .ok (.invokevirtual 47, 3) := by decide +kernel
theorem d_L_law_500 : decode (qB q_L_law) 500 = .ok (.aload_n 2, 1) := by decide +kernel
theorem d_L_law_501 : decode (qB q_L_law) 501 = .ok (.aload_n 0, 1) := by decide +kernel
theorem d_L_law_502 : decode (qB q_L_law) 502 = .ok (.iload_n 3, 1) := by decide +kernel
theorem d_L_law_503 : decode (qB q_L_law) 503 = .ok (.iconst 1, 1) := by decide +kernel
theorem d_L_law_504 : decode (qB q_L_law) 504 = .ok (.iadd, 1) := by decide +kernel
theorem d_L_law_505 : decode (qB q_L_law) 505 = .ok (.iaload, 1) := by decide +kernel
theorem d_L_law_506 : decode (qB q_L_law) 506 = .ok (.aload_n 0, 1) := by decide +kernel
theorem d_L_law_507 : decode (qB q_L_law) 507 = .ok (.iload_n 3, 1) := by decide +kernel
theorem d_L_law_508 : decode (qB q_L_law) 508 = .ok (.iconst 2, 1) := by decide +kernel
theorem d_L_law_509 : decode (qB q_L_law) 509 = .ok (.iadd, 1) := by decide +kernel
theorem d_L_law_510 : decode (qB q_L_law) 510 = .ok (.iaload, 1) := by decide +kernel
theorem d_L_law_511 : decode (qB q_L_law) 511 = .ok (.aload_n 0, 1) := by decide +kernel
theorem d_L_law_512 : decode (qB q_L_law) 512 = .ok (.iload_n 3, 1) := by decide +kernel
theorem d_L_law_513 : decode (qB q_L_law) 513 = .ok (.iconst 3, 1) := by decide +kernel
theorem d_L_law_514 : decode (qB q_L_law) 514 = .ok (.iadd, 1) := by decide +kernel
theorem d_L_law_515 : decode (qB q_L_law) 515 = .ok (.iaload, 1) := by decide +kernel
theorem d_L_law_516 : decode (qB q_L_law) 516 = .ok (.aload_n 0, 1) := by decide +kernel
theorem d_L_law_517 : decode (qB q_L_law) 517 = .ok (.iload_n 3, 1) := by decide +kernel
theorem d_L_law_518 : decode (qB q_L_law) 518 = .ok (.iconst 4, 1) := by decide +kernel
theorem d_L_law_519 : decode (qB q_L_law) 519 = .ok (.iadd, 1) := by decide +kernel
theorem d_L_law_520 : decode (qB q_L_law) 520 = .ok (.iaload, 1) := by decide +kernel
theorem d_L_law_521 : decode (qB q_L_law) 521 = .ok (.aload_n 0, 1) := by decide +kernel
theorem d_L_law_522 : decode (qB q_L_law) 522 = .ok (.iload_n 3, 1) := by decide +kernel
theorem d_L_law_523 : decode (qB q_L_law) 523 = .ok (.iconst 5, 1) := by decide +kernel
theorem d_L_law_524 : decode (qB q_L_law) 524 = .ok (.iadd, 1) := by decide +kernel
theorem d_L_law_525 : decode (qB q_L_law) 525 = .ok (.iaload, 1) := by decide +kernel
theorem d_L_law_526 : decode (qB q_L_law) 526 = .ok (.i2l, 1) := by decide +kernel
theorem d_L_law_527 : decode (qB q_L_law) 527 = .ok (.bipush 32, 2) := by decide +kernel
theorem d_L_law_529 : decode (qB q_L_law) 529 = .ok (.lshl, 1) := by decide +kernel
theorem d_L_law_530 : decode (qB q_L_law) 530 = .ok (.aload_n 0, 1) := by decide +kernel
theorem d_L_law_531 : decode (qB q_L_law) 531 = .ok (.iload_n 3, 1) := by decide +kernel
theorem d_L_law_532 : decode (qB q_L_law) 532 = .ok (.bipush 6, 2) := by decide +kernel
theorem d_L_law_534 : decode (qB q_L_law) 534 = .ok (.iadd, 1) := by decide +kernel
theorem d_L_law_535 : decode (qB q_L_law) 535 = .ok (.iaload, 1) := by decide +kernel
theorem d_L_law_536 : decode (qB q_L_law) 536 = .ok (.i2l, 1) := by decide +kernel
theorem d_L_law_537 : decode (qB q_L_law) 537 = .ok (.ldc2_w 35, 3) := by decide +kernel
theorem d_L_law_540 : decode (qB q_L_law) 540 = .ok (.land, 1) := by decide +kernel
theorem d_L_law_541 : decode (qB q_L_law) 541 = .ok (.lor, 1) := by decide +kernel
theorem d_L_law_542 : decode (qB q_L_law) 542 = .ok (.invokevirtual 51, 3) := by decide +kernel
theorem d_L_law_545 : decode (qB q_L_law) 545 = .ok (.if_icmp .eq 455, 3) := by decide +kernel
theorem d_L_law_548 : decode (qB q_L_law) 548 = .ok (.iconst 0, 1) := by decide +kernel
theorem d_L_law_549 : decode (qB q_L_law) 549 = .ok (.ireturn, 1) := by decide +kernel
theorem d_L_law_550 : decode (qB q_L_law) 550 = .ok (.aload_n 1, 1) := by decide +kernel
theorem d_L_law_551 : decode (qB q_L_law) 551 = .ok (.aload_n 0, 1) := by decide +kernel
theorem d_L_law_552 : decode (qB q_L_law) 552 = .ok (.iload_n 3, 1) := by decide +kernel
theorem d_L_law_553 : decode (qB q_L_law) 553 = .ok (.iconst 1, 1) := by decide +kernel
theorem d_L_law_554 : decode (qB q_L_law) 554 = .ok (.iadd, 1) := by decide +kernel
theorem d_L_law_555 : decode (qB q_L_law) 555 = .ok (.iaload, 1) := by decide +kernel
theorem d_L_law_556 : decode (qB q_L_law) 556 = .ok (.aload_n 0, 1) := by decide +kernel
theorem d_L_law_557 : decode (qB q_L_law) 557 = .ok (.iload_n 3, 1) := by decide +kernel
theorem d_L_law_558 : decode (qB q_L_law) 558 = .ok (.iconst 2, 1) := by decide +kernel
theorem d_L_law_559 : decode (qB q_L_law) 559 = .ok (.iadd, 1) := by decide +kernel
theorem d_L_law_560 : decode (qB q_L_law) 560 = .ok (.iaload, 1) := by decide +kernel
theorem d_L_law_561 : decode (qB q_L_law) 561 = .ok (.invokevirtual 52, 3) := by decide +kernel
theorem d_L_law_564 : decode (qB q_L_law) 564 = .ok (.aload_n 2, 1) := by decide +kernel
theorem d_L_law_565 : decode (qB q_L_law) 565 = .ok (.aload_n 0, 1) := by decide +kernel
theorem d_L_law_566 : decode (qB q_L_law) 566 = .ok (.iload_n 3, 1) := by decide +kernel
theorem d_L_law_567 : decode (qB q_L_law) 567 = .ok (.iconst 1, 1) := by decide +kernel
theorem d_L_law_568 : decode (qB q_L_law) 568 = .ok (.iadd, 1) := by decide +kernel
theorem d_L_law_569 : decode (qB q_L_law) 569 = .ok (.iaload, 1) := by decide +kernel
