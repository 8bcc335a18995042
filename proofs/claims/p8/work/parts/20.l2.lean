theorem md_L_law_455 : decode mb_L_law 455 = .ok (.aload_n 2, 1) := by decide +kernel
theorem md_L_law_456 : decode mb_L_law 456 = .ok (.invokevirtual 107, 3) := by decide +kernel
theorem md_L_law_459 : decode mb_L_law 459 = .ok (.iload 5, 2) := by decide +kernel
theorem md_L_law_461 : decode mb_L_law 461 = .ok (.if_icmp .eq 5, 3) := by decide +kernel
theorem md_L_law_464 : decode mb_L_law 464 = .ok (.iconst 0, 1) := by decide +kernel
theorem md_L_law_465 : decode mb_L_law 465 = .ok (.ireturn, 1) := by decide +kernel
theorem md_L_law_466 : decode mb_L_law 466 = .ok (.iload 5, 2) := by decide +kernel
theorem md_L_law_468 : decode mb_L_law 468 = .ok (.ifCond .ne 15, 3) := by decide +kernel
theorem md_L_law_471 : decode mb_L_law 471 = .ok (.aload_n 3, 1) := by decide +kernel
theorem md_L_law_472 : decode mb_L_law 472 = .ok (.iconst 0, 1) := by decide +kernel
theorem md_L_law_473 : decode mb_L_law 473 = .ok (.laload, 1) := by decide +kernel
theorem md_L_law_474 : decode mb_L_law 474 = .ok (.iload 6, 2) := by decide +kernel
theorem md_L_law_476 : decode mb_L_law 476 = .ok (.i2l, 1) := by decide +kernel
theorem md_L_law_477 : decode mb_L_law 477 = .ok (.lcmp, 1) := by decide +kernel
theorem md_L_law_478 : decode mb_L_law 478 = .ok (.ifCond .eq 5, 3) := by decide +kernel
theorem md_L_law_481 : decode mb_L_law 481 = .ok (.iconst 0, 1) := by decide +kernel
theorem md_L_law_482 : decode mb_L_law 482 = .ok (.ireturn, 1) := by decide +kernel
theorem md_L_law_483 : decode mb_L_law 483 = .ok (.goto 701, 3) := by decide +kernel
theorem md_L_law_486 : decode mb_L_law 486 = .ok (.aload_n 1, 1) := by decide +kernel
theorem md_L_law_487 : decode mb_L_law 487 = .ok (.aload_n 0, 1) := by decide +kernel
theorem md_L_law_488 : decode mb_L_law 488 = .ok (.iload 4, 2) := by decide +kernel
theorem md_L_law_490 : decode mb_L_law 490 = .ok (.iconst 1, 1) := by decide +kernel
theorem md_L_law_491 : decode mb_L_law 491 = .ok (.iadd, 1) := by decide +kernel
theorem md_L_law_492 : decode mb_L_law 492 = .ok (.iaload, 1) := by decide +kernel
theorem md_L_law_493 : decode mb_L_law 493 = .ok (.i2l, 1) := by decide +kernel
theorem md_L_law_494 : decode mb_L_law 494 = .ok (.bipush 32, 2) := by decide +kernel
theorem md_L_law_496 : decode mb_L_law 496 = .ok (.lshl, 1) := by decide +kernel
theorem md_L_law_497 : decode mb_L_law 497 = .ok (.aload_n 0, 1) := by decide +kernel
theorem md_L_law_498 : decode mb_L_law 498 = .ok (.iload 4, 2) := by decide +kernel
theorem md_L_law_500 : decode mb_L_law 500 = .ok (.iconst 2, 1) := by decide +kernel
theorem md_L_law_501 : decode mb_L_law 501 = .ok (.iadd, 1) := by decide +kernel
theorem md_L_law_502 : decode mb_L_law 502 = .ok (.iaload, 1) := by decide +kernel
theorem md_L_law_503 : decode mb_L_law 503 = .ok (.i2l, 1) := by decide +kernel
theorem md_L_law_504 : decode mb_L_law 504 = .ok (.ldc2_w 94, 3) := by decide +kernel
theorem md_L_law_507 : decode mb_L_law 507 = .ok (.land, 1) := by decide +kernel
theorem md_L_law_508 : decode mb_L_law 508 = .ok (.lor, 1) := by decide +kernel
theorem md_L_law_509 : decode mb_L_law 509 = .ok (.aload_n 0, 1) := by decide +kernel
theorem md_L_law_510 : decode mb_L_law 510 = .ok (.iload 4, 2) := by decide +kernel
theorem md_L_law_512 : decode mb_L_law 512 = .ok (.iconst 3, 1) := by decide +kernel
theorem md_L_law_513 : decode mb_L_law 513 = .ok (.iadd, 1) := by decide +kernel
theorem md_L_law_514 : decode mb_L_law 514 = .ok (.iaload, 1) := by decide +kernel
theorem md_L_law_515 : decode mb_L_law 515 = .ok (.i2l, 1) := by decide +kernel
theorem md_L_law_516 : decode mb_L_law 516 = .ok (.bipush 32, 2) := by decide +kernel
theorem md_L_law_518 : decode mb_L_law 518 = .ok (.lshl, 1) := by decide +kernel
theorem md_L_law_519 : decode mb_L_law 519 = .ok (.aload_n 0, 1) := by decide +kernel
theorem md_L_law_520 : decode mb_L_law 520 = .ok (.iload 4, 2) := by decide +kernel
theorem md_L_law_522 : decode mb_L_law 522 = .ok (.iconst 4, 1) := by decide +kernel
theorem md_L_law_523 : decode mb_L_law 523 = .ok (.iadd, 1) := by decide +kernel
theorem md_L_law_524 : decode mb_L_law 524 = .ok (.iaload, 1) := by decide +kernel
theorem md_L_law_525 : decode mb_L_law 525 = .ok (.i2l, 1) := by decide +kernel
theorem md_L_law_526 : decode mb_L_law 526 = .ok (.ldc2_w 94, 3) := by decide +kernel
theorem md_L_law_529 : decode mb_L_law 529 = .ok (.land, 1) := by decide +kernel
theorem md_L_law_530 : decode mb_L_law 530 = .ok (.lor, 1) := by decide +kernel
theorem md_L_law_531 : decode mb_L_law 531 = .ok (.aload_n 0, 1) := by decide +kernel
theorem md_L_law_532 : decode mb_L_law 532 = .ok (.iload 4, 2) := by decide +kernel
theorem md_L_law_534 : decode mb_L_law 534 = .ok (.iconst 5, 1) := by decide +kernel
theorem md_L_law_535 : decode mb_L_law 535 = .ok (.iadd, 1) := by decide +kernel
theorem md_L_law_536 : decode mb_L_law 536 = .ok (.iaload, 1) := by decide +kernel
theorem md_L_law_537 : decode mb_L_law 537 = .ok (.i2l, 1) := by decide +kernel
theorem md_L_law_538 : decode mb_L_law 538 = .ok (.bipush 32, 2) := by decide +kernel
theorem md_L_law_540 : decode mb_L_law 540 = .ok (.lshl, 1) := by decide +kernel
theorem md_L_law_541 : decode mb_L_law 541 = .ok (.aload_n 0, 1) := by decide +kernel
theorem md_L_law_542 : decode mb_L_law 542 = .ok (.iload 4, 2) := by decide +kernel
theorem md_L_law_544 : decode mb_L_law 544 = .ok (.bipush 6, 2) := by decide +kernel
theorem md_L_law_546 : decode mb_L_law 546 = .ok (.iadd, 1) := by decide +kernel
theorem md_L_law_547 : decode mb_L_law 547 = .ok (.iaload, 1) := by decide +kernel
theorem md_L_law_548 : decode mb_L_law 548 = .ok (.i2l, 1) := by decide +kernel
theorem md_L_law_549 : decode mb_L_law 549 = .ok (.ldc2_w 94, 3) := by decide +kernel
theorem md_L_law_552 : decode mb_L_law 552 = .ok (.land, 1) := by decide +kernel
theorem md_L_law_553 : decode mb_L_law 553 = .ok (.lor, 1) := by decide +kernel
theorem md_L_law_554 : decode mb_L_law 554 = .ok (.aload_n 0, 1) := by decide +kernel
theorem md_L_law_555 : decode mb_L_law 555 = .ok (.iload 4, 2) := by decide +kernel
theorem md_L_law_557 : decode mb_L_law 557 = .ok (.bipush 7, 2) := by decide +kernel
theorem md_L_law_559 : decode mb_L_law 559 = .ok (.iadd, 1) := by decide +kernel
theorem md_L_law_560 : decode mb_L_law 560 = .ok (.iaload, 1) := by decide +kernel
theorem md_L_law_561 : decode mb_L_law 561 = .ok (.i2l, 1) := by decide +kernel
theorem md_L_law_562 : decode mb_L_law 562 = .ok (.bipush 32, 2) := by decide +kernel
theorem md_L_law_564 : decode mb_L_law 564 = .ok (.lshl, 1) := by decide +kernel
theorem md_L_law_565 : decode mb_L_law 565 = .ok (.aload_n 0, 1) := by decide +kernel
theorem md_L_law_566 : decode mb_L_law 566 = .ok (.iload 4, 2) := by decide +kernel
theorem md_L_law_568 : decode mb_L_law 568 = .ok (.bipush 8, 2) := by decide +kernel
theorem md_L_law_570 : decode mb_L_law 570 = .ok (.iadd, 1) := by decide +kernel
theorem md_L_law_571 : decode mb_L_law 571 = .ok (.iaload, 1) := by decide +kernel
theorem md_L_law_572 : decode mb_L_law 572 = .ok (.i2l, 1) := by decide +kernel
theorem md_L_law_573 : decode mb_L_law 573 = .ok (.ldc2_w 94, 3) := by decide +kernel
theorem md_L_law_576 : decode mb_L_law 576 = .ok (.land, 1) := by decide +kernel
theorem md_L_law_577 : decode mb_L_law 577 = .ok (.lor, 1) := by decide +kernel
theorem md_L_law_578 : decode mb_L_law 578 = .ok (.aload_n 3, 1) := by decide +kernel
theorem md_L_law_579 : decode mb_L_law 579 = .ok (.invokestatic 110, 3) := by decide +kernel
theorem md_L_law_582 : decode mb_L_law 582 = .ok (.istore 5, 2) := by decide +kernel
theorem md_L_law_584 : decode mb_L_law 584 = .ok (.aload_n 2, 1) := by decide +kernel
theorem md_L_law_585 : decode mb_L_law 585 = .ok (.aload_n 0, 1) := by decide +kernel
theorem md_L_law_586 : decode mb_L_law 586 = .ok (.iload 4, 2) := by decide +kernel
theorem md_L_law_588 : decode mb_L_law 588 = .ok (.iconst 1, 1) := by decide +kernel
theorem md_L_law_589 : decode mb_L_law 589 = .ok (.iadd, 1) := by decide +kernel
theorem md_L_law_590 : decode mb_L_law 590 = .ok (.iaload, 1) := by decide +kernel
theorem md_L_law_591 : decode mb_L_law 591 = .ok (.i2l, 1) := by decide +kernel
theorem md_L_law_592 : decode mb_L_law 592 = .ok (.bipush 32, 2) := by decide +kernel
theorem md_L_law_594 : decode mb_L_law 594 = .ok (.lshl, 1) := by decide +kernel
theorem md_L_law_595 : decode mb_L_law 595 = .ok (.aload_n 0, 1) := by decide +kernel
theorem md_L_law_596 : decode mb_L_law 596 = .ok (.iload 4, 2) := by decide +kernel
theorem md_L_law_598 : decode mb_L_law 598 = .ok (.iconst 2, 1) := by decide +kernel
theorem md_L_law_599 : decode mb_L_law 599 = .ok (.iadd, 1) := by decide +kernel
theorem md_L_law_600 : decode mb_L_law 600 = .ok (.iaload, 1) := by decide +kernel
theorem md_L_law_601 : decode mb_L_law 601 = .ok (.i2l, 1) := by decide +kernel
theorem md_L_law_602 : decode mb_L_law 602 = .ok (.ldc2_w 94, 3) := by decide +kernel
theorem md_L_law_605 : decode mb_L_law 605 = .ok (.land, 1) := by decide +kernel
theorem md_L_law_606 : decode mb_L_law 606 = .ok (.lor, 1) := by decide +kernel
theorem md_L_law_607 : decode mb_L_law 607 = .ok (.aload_n 0, 1) := by decide +kernel
theorem md_L_law_608 : decode mb_L_law 608 = .ok (.iload 4, 2) := by decide +kernel
theorem md_L_law_610 : decode mb_L_law 610 = .ok (.iconst 3, 1) := by decide +kernel
theorem md_L_law_611 : decode mb_L_law 611 = .ok (.iadd, 1) := by decide +kernel
theorem md_L_law_612 : decode mb_L_law 612 = .ok (.iaload, 1) := by decide +kernel
theorem md_L_law_613 : decode mb_L_law 613 = .ok (.i2l, 1) := by decide +kernel
theorem md_L_law_614 : decode mb_L_law 614 = .ok (.bipush 32, 2) := by decide +kernel
theorem md_L_law_616 : decode mb_L_law 616 = .ok (.lshl, 1) := by decide +kernel
theorem md_L_law_617 : decode mb_L_law 617 = .ok (.aload_n 0, 1) := by decide +kernel
theorem md_L_law_618 : decode mb_L_law 618 = .ok (.iload 4, 2) := by decide +kernel
theorem md_L_law_620 : decode mb_L_law 620 = .ok (.iconst 4, 1) := by decide +kernel
theorem md_L_law_621 : decode mb_L_law 621 = .ok (.iadd, 1) := by decide +kernel
theorem md_L_law_622 : decode mb_L_law 622 = .ok (.iaload, 1) := by decide +kernel
theorem md_L_law_623 : decode mb_L_law 623 = .ok (.i2l, 1) := by decide +kernel
theorem md_L_law_624 : decode mb_L_law 624 = .ok (.ldc2_w 94, 3) := by decide +kernel
theorem md_L_law_627 : decode mb_L_law 627 = .ok (.land, 1) := by decide +kernel
theorem md_L_law_628 : decode mb_L_law 628 = .ok (.lor, 1) := by decide +kernel
theorem md_L_law_629 : decode mb_L_law 629 = .ok (.aload_n 0, 1) := by decide +kernel
theorem md_L_law_630 : decode mb_L_law 630 = .ok (.iload 4, 2) := by decide +kernel
theorem md_L_law_632 : decode mb_L_law 632 = .ok (.iconst 5, 1) := by decide +kernel
theorem md_L_law_633 : decode mb_L_law 633 = .ok (.iadd, 1) := by decide +kernel
theorem md_L_law_634 : decode mb_L_law 634 = .ok (.iaload, 1) := by decide +kernel
