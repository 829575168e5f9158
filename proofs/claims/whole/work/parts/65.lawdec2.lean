theorem d_Lw_law_432 : decode code 432 = .ok (.i2l, 1) := by decide +kernel
theorem d_Lw_law_433 : decode code 433 = .ok (.bipush 32, 2) := by decide +kernel
theorem d_Lw_law_435 : decode code 435 = .ok (.lshl, 1) := by decide +kernel
theorem d_Lw_law_436 : decode code 436 = .ok (.aload_n 0, 1) := by decide +kernel
theorem d_Lw_law_437 : decode code 437 = .ok (.iload_n 3, 1) := by decide +kernel
theorem d_Lw_law_438 : decode code 438 = .ok (.iconst 3, 1) := by decide +kernel
theorem d_Lw_law_439 : decode code 439 = .ok (.iadd, 1) := by decide +kernel
theorem d_Lw_law_440 : decode code 440 = .ok (.iaload, 1) := by decide +kernel
theorem d_Lw_law_441 : decode code 441 = .ok (.i2l, 1) := by decide +kernel
theorem d_Lw_law_442 : decode code 442 = .ok (.ldc2_w 63, 3) := by decide +kernel
theorem d_Lw_law_445 : decode code 445 = .ok (.land, 1) := by decide +kernel
theorem d_Lw_law_446 : decode code 446 = .ok (.lor, 1) := by decide +kernel
theorem d_Lw_law_447 : decode code 447 = .ok (.aload_n 0, 1) := by decide +kernel
theorem d_Lw_law_448 : decode code 448 = .ok (.iload_n 3, 1) := by decide +kernel
theorem d_Lw_law_449 : decode code 449 = .ok (.iconst 4, 1) := by decide +kernel
theorem d_Lw_law_450 : decode code 450 = .ok (.iadd, 1) := by decide +kernel
theorem d_Lw_law_451 : decode code 451 = .ok (.iaload, 1) := by decide +kernel
theorem d_Lw_law_452 : decode code 452 = .ok (.invokevirtual 65, 3) := by decide +kernel
theorem d_Lw_law_455 : decode code 455 = .ok (.aload_n 2, 1) := by decide +kernel
theorem d_Lw_law_456 : decode code 456 = .ok (.aload_n 0, 1) := by decide +kernel
theorem d_Lw_law_457 : decode code 457 = .ok (.iload_n 3, 1) := by decide +kernel
theorem d_Lw_law_458 : decode code 458 = .ok (.iconst 1, 1) := by decide +kernel
theorem d_Lw_law_459 : decode code 459 = .ok (.iadd, 1) := by decide +kernel
theorem d_Lw_law_460 : decode code 460 = .ok (.iaload, 1) := by decide +kernel
theorem d_Lw_law_461 : decode code 461 = .ok (.aload_n 0, 1) := by decide +kernel
theorem d_Lw_law_462 : decode code 462 = .ok (.iload_n 3, 1) := by decide +kernel
theorem d_Lw_law_463 : decode code 463 = .ok (.iconst 2, 1) := by decide +kernel
theorem d_Lw_law_464 : decode code 464 = .ok (.iadd, 1) := by decide +kernel
theorem d_Lw_law_465 : decode code 465 = .ok (.iaload, 1) := by decide +kernel
theorem d_Lw_law_466 : decode code 466 = .ok (.i2l, 1) := by decide +kernel
theorem d_Lw_law_467 : decode code 467 = .ok (.bipush 32, 2) := by decide +kernel
theorem d_Lw_law_469 : decode code 469 = .ok (.lshl, 1) := by decide +kernel
theorem d_Lw_law_470 : decode code 470 = .ok (.aload_n 0, 1) := by decide +kernel
theorem d_Lw_law_471 : decode code 471 = .ok (.iload_n 3, 1) := by decide +kernel
theorem d_Lw_law_472 : decode code 472 = .ok (.iconst 3, 1) := by decide +kernel
theorem d_Lw_law_473 : decode code 473 = .ok (.iadd, 1) := by decide +kernel
theorem d_Lw_law_474 : decode code 474 = .ok (.iaload, 1) := by decide +kernel
theorem d_Lw_law_475 : decode code 475 = .ok (.i2l, 1) := by decide +kernel
theorem d_Lw_law_476 : decode code 476 = .ok (.ldc2_w 63, 3) := by decide +kernel
theorem d_Lw_law_479 : decode code 479 = .ok (.land, 1) := by decide +kernel
theorem d_Lw_law_480 : decode code 480 = .ok (.lor, 1) := by decide +kernel
theorem d_Lw_law_481 : decode code 481 = .ok (.aload_n 0, 1) := by decide +kernel
theorem d_Lw_law_482 : decode code 482 = .ok (.iload_n 3, 1) := by decide +kernel
theorem d_Lw_law_483 : decode code 483 = .ok (.iconst 4, 1) := by decide +kernel
theorem d_Lw_law_484 : decode code 484 = .ok (.iadd, 1) := by decide +kernel
theorem d_Lw_law_485 : decode code 485 = .ok (.iaload, 1) := by decide +kernel
theorem d_Lw_law_486 : decode code 486 = .ok (.invokevirtual 69, 3) := by decide +kernel
theorem d_Lw_law_489 : decode code 489 = .ok (.if_icmp .eq 220, 3) := by decide +kernel
theorem d_Lw_law_492 : decode code 492 = .ok (.iconst 0, 1) := by decide +kernel
theorem d_Lw_law_493 : decode code 493 = .ok (.ireturn, 1) := by decide +kernel
theorem d_Lw_law_494 : decode code 494 = .ok (.aload_n 1, 1) := by decide +kernel
theorem d_Lw_law_495 : decode code 495 = .ok (.aload_n 0, 1) := by decide +kernel
theorem d_Lw_law_496 : decode code 496 = .ok (.iload_n 3, 1) := by decide +kernel
theorem d_Lw_law_497 : decode code 497 = .ok (.iconst 1, 1) := by decide +kernel
theorem d_Lw_law_498 : decode code 498 = .ok (.iadd, 1) := by decide +kernel
theorem d_Lw_law_499 : decode code 499 = .ok (.iaload, 1) := by decide +kernel
theorem d_Lw_law_500 : decode code 500 = .ok (.aload_n 0, 1) := by decide +kernel
theorem d_Lw_law_501 : decode code 501 = .ok (.iload_n 3, 1) := by decide +kernel
theorem d_Lw_law_502 : decode code 502 = .ok (.iconst 2, 1) := by decide +kernel
theorem d_Lw_law_503 : decode code 503 = .ok (.iadd, 1) := by decide +kernel
theorem d_Lw_law_504 : decode code 504 = .ok (.iaload, 1) := by decide +kernel
theorem d_Lw_law_505 : decode code 505 = .ok (.invokevirtual 70, 3) := by decide +kernel
theorem d_Lw_law_508 : decode code 508 = .ok (.aload_n 2, 1) := by decide +kernel
theorem d_Lw_law_509 : decode code 509 = .ok (.aload_n 0, 1) := by decide +kernel
theorem d_Lw_law_510 : decode code 510 = .ok (.iload_n 3, 1) := by decide +kernel
theorem d_Lw_law_511 : decode code 511 = .ok (.iconst 1, 1) := by decide +kernel
theorem d_Lw_law_512 : decode code 512 = .ok (.iadd, 1) := by decide +kernel
theorem d_Lw_law_513 : decode code 513 = .ok (.iaload, 1) := by decide +kernel
theorem d_Lw_law_514 : decode code 514 = .ok (.aload_n 0, 1) := by decide +kernel
theorem d_Lw_law_515 : decode code 515 = .ok (.iload_n 3, 1) := by decide +kernel
theorem d_Lw_law_516 : decode code 516 = .ok (.iconst 2, 1) := by decide +kernel
theorem d_Lw_law_517 : decode code 517 = .ok (.iadd, 1) := by decide +kernel
theorem d_Lw_law_518 : decode code 518 = .ok (.iaload, 1) := by decide +kernel
theorem d_Lw_law_519 : decode code 519 = .ok (.invokevirtual 73, 3) := by decide +kernel
theorem d_Lw_law_522 : decode code 522 = .ok (.if_icmp .eq 187, 3) := by decide +kernel
theorem d_Lw_law_525 : decode code 525 = .ok (.iconst 0, 1) := by decide +kernel
theorem d_Lw_law_526 : decode code 526 = .ok (.ireturn, 1) := by decide +kernel
theorem d_Lw_law_527 : decode code 527 = .ok (.aload_n 1, 1) := by decide +kernel
theorem d_Lw_law_528 : decode code 528 = .ok (.aload_n 0, 1) := by decide +kernel
theorem d_Lw_law_529 : decode code 529 = .ok (.iload_n 3, 1) := by decide +kernel
theorem d_Lw_law_530 : decode code 530 = .ok (.iconst 1, 1) := by decide +kernel
theorem d_Lw_law_531 : decode code 531 = .ok (.iadd, 1) := by decide +kernel
theorem d_Lw_law_532 : decode code 532 = .ok (.iaload, 1) := by decide +kernel
theorem d_Lw_law_533 : decode code 533 = .ok (.invokevirtual 74, 3) := by decide +kernel
theorem d_Lw_law_536 : decode code 536 = .ok (.aload_n 2, 1) := by decide +kernel
theorem d_Lw_law_537 : decode code 537 = .ok (.aload_n 0, 1) := by decide +kernel
theorem d_Lw_law_538 : decode code 538 = .ok (.iload_n 3, 1) := by decide +kernel
theorem d_Lw_law_539 : decode code 539 = .ok (.iconst 1, 1) := by decide +kernel
theorem d_Lw_law_540 : decode code 540 = .ok (.iadd, 1) := by decide +kernel
theorem d_Lw_law_541 : decode code 541 = .ok (.iaload, 1) := by decide +kernel
theorem d_Lw_law_542 : decode code 542 = .ok (.invokevirtual 77, 3) := by decide +kernel
theorem d_Lw_law_545 : decode code 545 = .ok (.if_icmp .eq 164, 3) := by decide +kernel
theorem d_Lw_law_548 : decode code 548 = .ok (.iconst 0, 1) := by decide +kernel
theorem d_Lw_law_549 : decode code 549 = .ok (.ireturn, 1) := by decide +kernel
theorem d_Lw_law_550 : decode code 550 = .ok (.aload_n 1, 1) := by decide +kernel
theorem d_Lw_law_551 : decode code 551 = .ok (.invokevirtual 78, 3) := by decide +kernel
theorem d_Lw_law_554 : decode code 554 = .ok (.aload_n 2, 1) := by decide +kernel
theorem d_Lw_law_555 : decode code 555 = .ok (.invokevirtual 81, 3) := by decide +kernel
theorem d_Lw_law_558 : decode code 558 = .ok (.if_icmp .eq 151, 3) := by decide +kernel
theorem d_Lw_law_561 : decode code 561 = .ok (.iconst 0, 1) := by decide +kernel
theorem d_Lw_law_562 : decode code 562 = .ok (.ireturn, 1) := by decide +kernel
theorem d_Lw_law_563 : decode code 563 = .ok (.aload_n 1, 1) := by decide +kernel
theorem d_Lw_law_564 : decode code 564 = .ok (.aload_n 0, 1) := by decide +kernel
theorem d_Lw_law_565 : decode code 565 = .ok (.iload_n 3, 1) := by decide +kernel
theorem d_Lw_law_566 : decode code 566 = .ok (.iconst 1, 1) := by decide +kernel
theorem d_Lw_law_567 : decode code 567 = .ok (.iadd, 1) := by decide +kernel
theorem d_Lw_law_568 : decode code 568 = .ok (.iaload, 1) := by decide +kernel
theorem d_Lw_law_569 : decode code 569 = .ok (.invokevirtual 82, 3) := by decide +kernel
theorem d_Lw_law_572 : decode code 572 = .ok (.aload_n 2, 1) := by decide +kernel
theorem d_Lw_law_573 : decode code 573 = .ok (.aload_n 0, 1) := by decide +kernel
theorem d_Lw_law_574 : decode code 574 = .ok (.iload_n 3, 1) := by decide +kernel
theorem d_Lw_law_575 : decode code 575 = .ok (.iconst 1, 1) := by decide +kernel
theorem d_Lw_law_576 : decode code 576 = .ok (.iadd, 1) := by decide +kernel
theorem d_Lw_law_577 : decode code 577 = .ok (.iaload, 1) := by decide +kernel
theorem d_Lw_law_578 : decode code 578 = .ok (.invokevirtual 86, 3) := by decide +kernel
theorem d_Lw_law_581 : decode code 581 = .ok (.lcmp, 1) := by decide +kernel
theorem d_Lw_law_582 : decode code 582 = .ok (.ifCond .eq 127, 3) := by decide +kernel
theorem d_Lw_law_585 : decode code 585 = .ok (.iconst 0, 1) := by decide +kernel
theorem d_Lw_law_586 : decode code 586 = .ok (.ireturn, 1) := by decide +kernel
theorem d_Lw_law_587 : decode code 587 = .ok (.aload_n 1, 1) := by decide +kernel
theorem d_Lw_law_588 : decode code 588 = .ok (.aload_n 0, 1) := by decide +kernel
theorem d_Lw_law_589 : decode code 589 = .ok (.iload_n 3, 1) := by decide +kernel
theorem d_Lw_law_590 : decode code 590 = .ok (.iconst 1, 1) := by decide +kernel
theorem d_Lw_law_591 : decode code 591 = .ok (.iadd, 1) := by decide +kernel
theorem d_Lw_law_592 : decode code 592 = .ok (.iaload, 1) := by decide +kernel
theorem d_Lw_law_593 : decode code 593 = .ok (.aload_n 0, 1) := by decide +kernel
theorem d_Lw_law_594 : decode code 594 = .ok (.iload_n 3, 1) := by decide +kernel
theorem d_Lw_law_595 : decode code 595 = .ok (.iconst 2, 1) := by decide +kernel
theorem d_Lw_law_596 : decode code 596 = .ok (.iadd, 1) := by decide +kernel
theorem d_Lw_law_597 : decode code 597 = .ok (.iaload, 1) := by decide +kernel
