theorem md_L_law_462 : decode mb_L_law 462 = .ok (.aload_n 2, 1) := by decide +kernel
theorem md_L_law_463 : decode mb_L_law 463 = .ok (.aload_n 0, 1) := by decide +kernel
theorem md_L_law_464 : decode mb_L_law 464 = .ok (.iload 4, 2) := by decide +kernel
theorem md_L_law_466 : decode mb_L_law 466 = .ok (.iconst 1, 1) := by decide +kernel
theorem md_L_law_467 : decode mb_L_law 467 = .ok (.iadd, 1) := by decide +kernel
theorem md_L_law_468 : decode mb_L_law 468 = .ok (.iaload, 1) := by decide +kernel
theorem md_L_law_469 : decode mb_L_law 469 = .ok (.i2l, 1) := by decide +kernel
theorem md_L_law_470 : decode mb_L_law 470 = .ok (.bipush 32, 2) := by decide +kernel
theorem md_L_law_472 : decode mb_L_law 472 = .ok (.lshl, 1) := by decide +kernel
theorem md_L_law_473 : decode mb_L_law 473 = .ok (.aload_n 0, 1) := by decide +kernel
theorem md_L_law_474 : decode mb_L_law 474 = .ok (.iload 4, 2) := by decide +kernel
theorem md_L_law_476 : decode mb_L_law 476 = .ok (.iconst 2, 1) := by decide +kernel
theorem md_L_law_477 : decode mb_L_law 477 = .ok (.iadd, 1) := by decide +kernel
theorem md_L_law_478 : decode mb_L_law 478 = .ok (.iaload, 1) := by decide +kernel
theorem md_L_law_479 : decode mb_L_law 479 = .ok (.i2l, 1) := by decide +kernel
theorem md_L_law_480 : decode mb_L_law 480 = .ok (.ldc2_w 97, 3) := by decide +kernel
theorem md_L_law_483 : decode mb_L_law 483 = .ok (.land, 1) := by decide +kernel
theorem md_L_law_484 : decode mb_L_law 484 = .ok (.lor, 1) := by decide +kernel
theorem md_L_law_485 : decode mb_L_law 485 = .ok (.invokevirtual 109, 3) := by decide +kernel
theorem md_L_law_488 : decode mb_L_law 488 = .ok (.istore 6, 2) := by decide +kernel
theorem md_L_law_490 : decode mb_L_law 490 = .ok (.goto 701, 3) := by decide +kernel
theorem md_L_law_493 : decode mb_L_law 493 = .ok (.aload_n 1, 1) := by decide +kernel
theorem md_L_law_494 : decode mb_L_law 494 = .ok (.aload_n 0, 1) := by decide +kernel
theorem md_L_law_495 : decode mb_L_law 495 = .ok (.iload 4, 2) := by decide +kernel
theorem md_L_law_497 : decode mb_L_law 497 = .ok (.iconst 1, 1) := by decide +kernel
theorem md_L_law_498 : decode mb_L_law 498 = .ok (.iadd, 1) := by decide +kernel
theorem md_L_law_499 : decode mb_L_law 499 = .ok (.iaload, 1) := by decide +kernel
theorem md_L_law_500 : decode mb_L_law 500 = .ok (.i2l, 1) := by decide +kernel
theorem md_L_law_501 : decode mb_L_law 501 = .ok (.bipush 32, 2) := by decide +kernel
theorem md_L_law_503 : decode mb_L_law 503 = .ok (.lshl, 1) := by decide +kernel
theorem md_L_law_504 : decode mb_L_law 504 = .ok (.aload_n 0, 1) := by decide +kernel
theorem md_L_law_505 : decode mb_L_law 505 = .ok (.iload 4, 2) := by decide +kernel
theorem md_L_law_507 : decode mb_L_law 507 = .ok (.iconst 2, 1) := by decide +kernel
theorem md_L_law_508 : decode mb_L_law 508 = .ok (.iadd, 1) := by decide +kernel
theorem md_L_law_509 : decode mb_L_law 509 = .ok (.iaload, 1) := by decide +kernel
theorem md_L_law_510 : decode mb_L_law 510 = .ok (.i2l, 1) := by decide +kernel
theorem md_L_law_511 : decode mb_L_law 511 = .ok (.ldc2_w 97, 3) := by decide +kernel
theorem md_L_law_514 : decode mb_L_law 514 = .ok (.land, 1) := by decide +kernel
theorem md_L_law_515 : decode mb_L_law 515 = .ok (.lor, 1) := by decide +kernel
theorem md_L_law_516 : decode mb_L_law 516 = .ok (.aload_n 0, 1) := by decide +kernel
theorem md_L_law_517 : decode mb_L_law 517 = .ok (.iload 4, 2) := by decide +kernel
theorem md_L_law_519 : decode mb_L_law 519 = .ok (.iconst 3, 1) := by decide +kernel
theorem md_L_law_520 : decode mb_L_law 520 = .ok (.iadd, 1) := by decide +kernel
theorem md_L_law_521 : decode mb_L_law 521 = .ok (.iaload, 1) := by decide +kernel
theorem md_L_law_522 : decode mb_L_law 522 = .ok (.i2l, 1) := by decide +kernel
theorem md_L_law_523 : decode mb_L_law 523 = .ok (.bipush 32, 2) := by decide +kernel
theorem md_L_law_525 : decode mb_L_law 525 = .ok (.lshl, 1) := by decide +kernel
theorem md_L_law_526 : decode mb_L_law 526 = .ok (.aload_n 0, 1) := by decide +kernel
theorem md_L_law_527 : decode mb_L_law 527 = .ok (.iload 4, 2) := by decide +kernel
theorem md_L_law_529 : decode mb_L_law 529 = .ok (.iconst 4, 1) := by decide +kernel
theorem md_L_law_530 : decode mb_L_law 530 = .ok (.iadd, 1) := by decide +kernel
theorem md_L_law_531 : decode mb_L_law 531 = .ok (.iaload, 1) := by decide +kernel
theorem md_L_law_532 : decode mb_L_law 532 = .ok (.i2l, 1) := by decide +kernel
theorem md_L_law_533 : decode mb_L_law 533 = .ok (.ldc2_w 97, 3) := by decide +kernel
theorem md_L_law_536 : decode mb_L_law 536 = .ok (.land, 1) := by decide +kernel
theorem md_L_law_537 : decode mb_L_law 537 = .ok (.lor, 1) := by decide +kernel
theorem md_L_law_538 : decode mb_L_law 538 = .ok (.aload_n 0, 1) := by decide +kernel
theorem md_L_law_539 : decode mb_L_law 539 = .ok (.iload 4, 2) := by decide +kernel
theorem md_L_law_541 : decode mb_L_law 541 = .ok (.iconst 5, 1) := by decide +kernel
theorem md_L_law_542 : decode mb_L_law 542 = .ok (.iadd, 1) := by decide +kernel
theorem md_L_law_543 : decode mb_L_law 543 = .ok (.iaload, 1) := by decide +kernel
theorem md_L_law_544 : decode mb_L_law 544 = .ok (.i2l, 1) := by decide +kernel
theorem md_L_law_545 : decode mb_L_law 545 = .ok (.bipush 32, 2) := by decide +kernel
theorem md_L_law_547 : decode mb_L_law 547 = .ok (.lshl, 1) := by decide +kernel
theorem md_L_law_548 : decode mb_L_law 548 = .ok (.aload_n 0, 1) := by decide +kernel
theorem md_L_law_549 : decode mb_L_law 549 = .ok (.iload 4, 2) := by decide +kernel
theorem md_L_law_551 : decode mb_L_law 551 = .ok (.bipush 6, 2) := by decide +kernel
theorem md_L_law_553 : decode mb_L_law 553 = .ok (.iadd, 1) := by decide +kernel
theorem md_L_law_554 : decode mb_L_law 554 = .ok (.iaload, 1) := by decide +kernel
theorem md_L_law_555 : decode mb_L_law 555 = .ok (.i2l, 1) := by decide +kernel
theorem md_L_law_556 : decode mb_L_law 556 = .ok (.ldc2_w 97, 3) := by decide +kernel
theorem md_L_law_559 : decode mb_L_law 559 = .ok (.land, 1) := by decide +kernel
theorem md_L_law_560 : decode mb_L_law 560 = .ok (.lor, 1) := by decide +kernel
theorem md_L_law_561 : decode mb_L_law 561 = .ok (.aload_n 0, 1) := by decide +kernel
theorem md_L_law_562 : decode mb_L_law 562 = .ok (.iload 4, 2) := by decide +kernel
theorem md_L_law_564 : decode mb_L_law 564 = .ok (.bipush 7, 2) := by decide +kernel
theorem md_L_law_566 : decode mb_L_law 566 = .ok (.iadd, 1) := by decide +kernel
theorem md_L_law_567 : decode mb_L_law 567 = .ok (.iaload, 1) := by decide +kernel
theorem md_L_law_568 : decode mb_L_law 568 = .ok (.i2l, 1) := by decide +kernel
theorem md_L_law_569 : decode mb_L_law 569 = .ok (.bipush 32, 2) := by decide +kernel
theorem md_L_law_571 : decode mb_L_law 571 = .ok (.lshl, 1) := by decide +kernel
theorem md_L_law_572 : decode mb_L_law 572 = .ok (.aload_n 0, 1) := by decide +kernel
theorem md_L_law_573 : decode mb_L_law 573 = .ok (.iload 4, 2) := by decide +kernel
theorem md_L_law_575 : decode mb_L_law 575 = .ok (.bipush 8, 2) := by decide +kernel
theorem md_L_law_577 : decode mb_L_law 577 = .ok (.iadd, 1) := by decide +kernel
theorem md_L_law_578 : decode mb_L_law 578 = .ok (.iaload, 1) := by decide +kernel
theorem md_L_law_579 : decode mb_L_law 579 = .ok (.i2l, 1) := by decide +kernel
theorem md_L_law_580 : decode mb_L_law 580 = .ok (.ldc2_w 97, 3) := by decide +kernel
theorem md_L_law_583 : decode mb_L_law 583 = .ok (.land, 1) := by decide +kernel
theorem md_L_law_584 : decode mb_L_law 584 = .ok (.lor, 1) := by decide +kernel
theorem md_L_law_585 : decode mb_L_law 585 = .ok (.aload_n 3, 1) := by decide +kernel
theorem md_L_law_586 : decode mb_L_law 586 = .ok (.invokestatic 110, 3) := by decide +kernel
theorem md_L_law_589 : decode mb_L_law 589 = .ok (.istore 5, 2) := by decide +kernel
theorem md_L_law_591 : decode mb_L_law 591 = .ok (.aload_n 2, 1) := by decide +kernel
theorem md_L_law_592 : decode mb_L_law 592 = .ok (.aload_n 0, 1) := by decide +kernel
theorem md_L_law_593 : decode mb_L_law 593 = .ok (.iload 4, 2) := by decide +kernel
theorem md_L_law_595 : decode mb_L_law 595 = .ok (.iconst 1, 1) := by decide +kernel
theorem md_L_law_596 : decode mb_L_law 596 = .ok (.iadd, 1) := by decide +kernel
theorem md_L_law_597 : decode mb_L_law 597 = .ok (.iaload, 1) := by decide +kernel
theorem md_L_law_598 : decode mb_L_law 598 = .ok (.i2l, 1) := by decide +kernel
theorem md_L_law_599 : decode mb_L_law 599 = .ok (.bipush 32, 2) := by decide +kernel
theorem md_L_law_601 : decode mb_L_law 601 = .ok (.lshl, 1) := by decide +kernel
theorem md_L_law_602 : decode mb_L_law 602 = .ok (.aload_n 0, 1) := by decide +kernel
theorem md_L_law_603 : decode mb_L_law 603 = .ok (.iload 4, 2) := by decide +kernel
theorem md_L_law_605 : decode mb_L_law 605 = .ok (.iconst 2, 1) := by decide +kernel
theorem md_L_law_606 : decode mb_L_law 606 = .ok (.iadd, 1) := by decide +kernel
theorem md_L_law_607 : decode mb_L_law 607 = .ok (.iaload, 1) := by decide +kernel
theorem md_L_law_608 : decode mb_L_law 608 = .ok (.i2l, 1) := by decide +kernel
theorem md_L_law_609 : decode mb_L_law 609 = .ok (.ldc2_w 97, 3) := by decide +kernel
theorem md_L_law_612 : decode mb_L_law 612 = .ok (.land, 1) := by decide +kernel
theorem md_L_law_613 : decode mb_L_law 613 = .ok (.lor, 1) := by decide +kernel
theorem md_L_law_614 : decode mb_L_law 614 = .ok (.aload_n 0, 1) := by decide +kernel
theorem md_L_law_615 : decode mb_L_law 615 = .ok (.iload 4, 2) := by decide +kernel
theorem md_L_law_617 : decode mb_L_law 617 = .ok (.iconst 3, 1) := by decide +kernel
theorem md_L_law_618 : decode mb_L_law 618 = .ok (.iadd, 1) := by decide +kernel
theorem md_L_law_619 : decode mb_L_law 619 = .ok (.iaload, 1) := by decide +kernel
theorem md_L_law_620 : decode mb_L_law 620 = .ok (.i2l, 1) := by decide +kernel
theorem md_L_law_621 : decode mb_L_law 621 = .ok (.bipush 32, 2) := by decide +kernel
theorem md_L_law_623 : decode mb_L_law 623 = .ok (.lshl, 1) := by decide +kernel
theorem md_L_law_624 : decode mb_L_law 624 = .ok (.aload_n 0, 1) := by decide +kernel
theorem md_L_law_625 : decode mb_L_law 625 = .ok (.iload 4, 2) := by decide +kernel
theorem md_L_law_627 : decode mb_L_law 627 = .ok (.iconst 4, 1) := by decide +kernel
theorem md_L_law_628 : decode mb_L_law 628 = .ok (.iadd, 1) := by decide +kernel
theorem md_L_law_629 : decode mb_L_law 629 = .ok (.iaload, 1) := by decide +kernel
theorem md_L_law_630 : decode mb_L_law 630 = .ok (.i2l, 1) := by decide +kernel
theorem md_L_law_631 : decode mb_L_law 631 = .ok (.ldc2_w 97, 3) := by decide +kernel
theorem md_L_law_634 : decode mb_L_law 634 = .ok (.land, 1) := by decide +kernel
theorem md_L_law_635 : decode mb_L_law 635 = .ok (.lor, 1) := by decide +kernel
theorem md_L_law_636 : decode mb_L_law 636 = .ok (.aload_n 0, 1) := by decide +kernel
theorem md_L_law_637 : decode mb_L_law 637 = .ok (.iload 4, 2) := by decide +kernel
