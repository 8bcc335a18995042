theorem md_L_law_455 : decode mb_L_law 455 = .ok (.goto 728, 3) := by decide +kernel
theorem md_L_law_458 : decode mb_L_law 458 = .ok (.aload_n 1, 1) := by decide +kernel
theorem md_L_law_459 : decode mb_L_law 459 = .ok (.aload_n 0, 1) := by decide +kernel
theorem md_L_law_460 : decode mb_L_law 460 = .ok (.iload 4, 2) := by decide +kernel
theorem md_L_law_462 : decode mb_L_law 462 = .ok (.iconst 1, 1) := by decide +kernel
theorem md_L_law_463 : decode mb_L_law 463 = .ok (.iadd, 1) := by decide +kernel
theorem md_L_law_464 : decode mb_L_law 464 = .ok (.iaload, 1) := by decide +kernel
theorem md_L_law_465 : decode mb_L_law 465 = .ok (.i2l, 1) := by decide +kernel
theorem md_L_law_466 : decode mb_L_law 466 = .ok (.bipush 32, 2) := by decide +kernel
theorem md_L_law_468 : decode mb_L_law 468 = .ok (.lshl, 1) := by decide +kernel
theorem md_L_law_469 : decode mb_L_law 469 = .ok (.aload_n 0, 1) := by decide +kernel
theorem md_L_law_470 : decode mb_L_law 470 = .ok (.iload 4, 2) := by decide +kernel
theorem md_L_law_472 : decode mb_L_law 472 = .ok (.iconst 2, 1) := by decide +kernel
theorem md_L_law_473 : decode mb_L_law 473 = .ok (.iadd, 1) := by decide +kernel
theorem md_L_law_474 : decode mb_L_law 474 = .ok (.iaload, 1) := by decide +kernel
theorem md_L_law_475 : decode mb_L_law 475 = .ok (.i2l, 1) := by decide +kernel
theorem md_L_law_476 : decode mb_L_law 476 = .ok (.ldc2_w 94, 3) := by decide +kernel
theorem md_L_law_479 : decode mb_L_law 479 = .ok (.land, 1) := by decide +kernel
theorem md_L_law_480 : decode mb_L_law 480 = .ok (.lor, 1) := by decide +kernel
theorem md_L_law_481 : decode mb_L_law 481 = .ok (.aload_n 0, 1) := by decide +kernel
theorem md_L_law_482 : decode mb_L_law 482 = .ok (.iload 4, 2) := by decide +kernel
theorem md_L_law_484 : decode mb_L_law 484 = .ok (.iconst 3, 1) := by decide +kernel
theorem md_L_law_485 : decode mb_L_law 485 = .ok (.iadd, 1) := by decide +kernel
theorem md_L_law_486 : decode mb_L_law 486 = .ok (.iaload, 1) := by decide +kernel
theorem md_L_law_487 : decode mb_L_law 487 = .ok (.i2l, 1) := by decide +kernel
theorem md_L_law_488 : decode mb_L_law 488 = .ok (.bipush 32, 2) := by decide +kernel
theorem md_L_law_490 : decode mb_L_law 490 = .ok (.lshl, 1) := by decide +kernel
theorem md_L_law_491 : decode mb_L_law 491 = .ok (.aload_n 0, 1) := by decide +kernel
theorem md_L_law_492 : decode mb_L_law 492 = .ok (.iload 4, 2) := by decide +kernel
theorem md_L_law_494 : decode mb_L_law 494 = .ok (.iconst 4, 1) := by decide +kernel
theorem md_L_law_495 : decode mb_L_law 495 = .ok (.iadd, 1) := by decide +kernel
theorem md_L_law_496 : decode mb_L_law 496 = .ok (.iaload, 1) := by decide +kernel
theorem md_L_law_497 : decode mb_L_law 497 = .ok (.i2l, 1) := by decide +kernel
theorem md_L_law_498 : decode mb_L_law 498 = .ok (.ldc2_w 94, 3) := by decide +kernel
theorem md_L_law_501 : decode mb_L_law 501 = .ok (.land, 1) := by decide +kernel
theorem md_L_law_502 : decode mb_L_law 502 = .ok (.lor, 1) := by decide +kernel
theorem md_L_law_503 : decode mb_L_law 503 = .ok (.aload_n 0, 1) := by decide +kernel
theorem md_L_law_504 : decode mb_L_law 504 = .ok (.iload 4, 2) := by decide +kernel
theorem md_L_law_506 : decode mb_L_law 506 = .ok (.iconst 5, 1) := by decide +kernel
theorem md_L_law_507 : decode mb_L_law 507 = .ok (.iadd, 1) := by decide +kernel
theorem md_L_law_508 : decode mb_L_law 508 = .ok (.iaload, 1) := by decide +kernel
theorem md_L_law_509 : decode mb_L_law 509 = .ok (.i2l, 1) := by decide +kernel
theorem md_L_law_510 : decode mb_L_law 510 = .ok (.bipush 32, 2) := by decide +kernel
theorem md_L_law_512 : decode mb_L_law 512 = .ok (.lshl, 1) := by decide +kernel
theorem md_L_law_513 : decode mb_L_law 513 = .ok (.aload_n 0, 1) := by decide +kernel
theorem md_L_law_514 : decode mb_L_law 514 = .ok (.iload 4, 2) := by decide +kernel
theorem md_L_law_516 : decode mb_L_law 516 = .ok (.bipush 6, 2) := by decide +kernel
theorem md_L_law_518 : decode mb_L_law 518 = .ok (.iadd, 1) := by decide +kernel
theorem md_L_law_519 : decode mb_L_law 519 = .ok (.iaload, 1) := by decide +kernel
theorem md_L_law_520 : decode mb_L_law 520 = .ok (.i2l, 1) := by decide +kernel
theorem md_L_law_521 : decode mb_L_law 521 = .ok (.ldc2_w 94, 3) := by decide +kernel
theorem md_L_law_524 : decode mb_L_law 524 = .ok (.land, 1) := by decide +kernel
theorem md_L_law_525 : decode mb_L_law 525 = .ok (.lor, 1) := by decide +kernel
theorem md_L_law_526 : decode mb_L_law 526 = .ok (.aload_n 0, 1) := by decide +kernel
theorem md_L_law_527 : decode mb_L_law 527 = .ok (.iload 4, 2) := by decide +kernel
theorem md_L_law_529 : decode mb_L_law 529 = .ok (.bipush 7, 2) := by decide +kernel
theorem md_L_law_531 : decode mb_L_law 531 = .ok (.iadd, 1) := by decide +kernel
theorem md_L_law_532 : decode mb_L_law 532 = .ok (.iaload, 1) := by decide +kernel
theorem md_L_law_533 : decode mb_L_law 533 = .ok (.i2l, 1) := by decide +kernel
theorem md_L_law_534 : decode mb_L_law 534 = .ok (.bipush 32, 2) := by decide +kernel
theorem md_L_law_536 : decode mb_L_law 536 = .ok (.lshl, 1) := by decide +kernel
theorem md_L_law_537 : decode mb_L_law 537 = .ok (.aload_n 0, 1) := by decide +kernel
theorem md_L_law_538 : decode mb_L_law 538 = .ok (.iload 4, 2) := by decide +kernel
theorem md_L_law_540 : decode mb_L_law 540 = .ok (.bipush 8, 2) := by decide +kernel
theorem md_L_law_542 : decode mb_L_law 542 = .ok (.iadd, 1) := by decide +kernel
theorem md_L_law_543 : decode mb_L_law 543 = .ok (.iaload, 1) := by decide +kernel
theorem md_L_law_544 : decode mb_L_law 544 = .ok (.i2l, 1) := by decide +kernel
theorem md_L_law_545 : decode mb_L_law 545 = .ok (.ldc2_w 94, 3) := by decide +kernel
theorem md_L_law_548 : decode mb_L_law 548 = .ok (.land, 1) := by decide +kernel
theorem md_L_law_549 : decode mb_L_law 549 = .ok (.lor, 1) := by decide +kernel
theorem md_L_law_550 : decode mb_L_law 550 = .ok (.aload_n 3, 1) := by decide +kernel
theorem md_L_law_551 : decode mb_L_law 551 = .ok (.invokestatic 107, 3) := by decide +kernel
theorem md_L_law_554 : decode mb_L_law 554 = .ok (.istore 5, 2) := by decide +kernel
theorem md_L_law_556 : decode mb_L_law 556 = .ok (.aload_n 2, 1) := by decide +kernel
theorem md_L_law_557 : decode mb_L_law 557 = .ok (.aload_n 0, 1) := by decide +kernel
theorem md_L_law_558 : decode mb_L_law 558 = .ok (.iload 4, 2) := by decide +kernel
theorem md_L_law_560 : decode mb_L_law 560 = .ok (.iconst 1, 1) := by decide +kernel
theorem md_L_law_561 : decode mb_L_law 561 = .ok (.iadd, 1) := by decide +kernel
theorem md_L_law_562 : decode mb_L_law 562 = .ok (.iaload, 1) := by decide +kernel
theorem md_L_law_563 : decode mb_L_law 563 = .ok (.i2l, 1) := by decide +kernel
theorem md_L_law_564 : decode mb_L_law 564 = .ok (.bipush 32, 2) := by decide +kernel
theorem md_L_law_566 : decode mb_L_law 566 = .ok (.lshl, 1) := by decide +kernel
theorem md_L_law_567 : decode mb_L_law 567 = .ok (.aload_n 0, 1) := by decide +kernel
theorem md_L_law_568 : decode mb_L_law 568 = .ok (.iload 4, 2) := by decide +kernel
theorem md_L_law_570 : decode mb_L_law 570 = .ok (.iconst 2, 1) := by decide +kernel
theorem md_L_law_571 : decode mb_L_law 571 = .ok (.iadd, 1) := by decide +kernel
theorem md_L_law_572 : decode mb_L_law 572 = .ok (.iaload, 1) := by decide +kernel
theorem md_L_law_573 : decode mb_L_law 573 = .ok (.i2l, 1) := by decide +kernel
theorem md_L_law_574 : decode mb_L_law 574 = .ok (.ldc2_w 94, 3) := by decide +kernel
theorem md_L_law_577 : decode mb_L_law 577 = .ok (.land, 1) := by decide +kernel
theorem md_L_law_578 : decode mb_L_law 578 = .ok (.lor, 1) := by decide +kernel
theorem md_L_law_579 : decode mb_L_law 579 = .ok (.aload_n 0, 1) := by decide +kernel
theorem md_L_law_580 : decode mb_L_law 580 = .ok (.iload 4, 2) := by decide +kernel
theorem md_L_law_582 : decode mb_L_law 582 = .ok (.iconst 3, 1) := by decide +kernel
theorem md_L_law_583 : decode mb_L_law 583 = .ok (.iadd, 1) := by decide +kernel
theorem md_L_law_584 : decode mb_L_law 584 = .ok (.iaload, 1) := by decide +kernel
theorem md_L_law_585 : decode mb_L_law 585 = .ok (.i2l, 1) := by decide +kernel
theorem md_L_law_586 : decode mb_L_law 586 = .ok (.bipush 32, 2) := by decide +kernel
theorem md_L_law_588 : decode mb_L_law 588 = .ok (.lshl, 1) := by decide +kernel
theorem md_L_law_589 : decode mb_L_law 589 = .ok (.aload_n 0, 1) := by decide +kernel
theorem md_L_law_590 : decode mb_L_law 590 = .ok (.iload 4, 2) := by decide +kernel
theorem md_L_law_592 : decode mb_L_law 592 = .ok (.iconst 4, 1) := by decide +kernel
theorem md_L_law_593 : decode mb_L_law 593 = .ok (.iadd, 1) := by decide +kernel
theorem md_L_law_594 : decode mb_L_law 594 = .ok (.iaload, 1) := by decide +kernel
theorem md_L_law_595 : decode mb_L_law 595 = .ok (.i2l, 1) := by decide +kernel
theorem md_L_law_596 : decode mb_L_law 596 = .ok (.ldc2_w 94, 3) := by decide +kernel
theorem md_L_law_599 : decode mb_L_law 599 = .ok (.land, 1) := by decide +kernel
theorem md_L_law_600 : decode mb_L_law 600 = .ok (.lor, 1) := by decide +kernel
theorem md_L_law_601 : decode mb_L_law 601 = .ok (.aload_n 0, 1) := by decide +kernel
theorem md_L_law_602 : decode mb_L_law 602 = .ok (.iload 4, 2) := by decide +kernel
theorem md_L_law_604 : decode mb_L_law 604 = .ok (.iconst 5, 1) := by decide +kernel
theorem md_L_law_605 : decode mb_L_law 605 = .ok (.iadd, 1) := by decide +kernel
theorem md_L_law_606 : decode mb_L_law 606 = .ok (.iaload, 1) := by decide +kernel
theorem md_L_law_607 : decode mb_L_law 607 = .ok (.i2l, 1) := by decide +kernel
theorem md_L_law_608 : decode mb_L_law 608 = .ok (.bipush 32, 2) := by decide +kernel
theorem md_L_law_610 : decode mb_L_law 610 = .ok (.lshl, 1) := by decide +kernel
theorem md_L_law_611 : decode mb_L_law 611 = .ok (.aload_n 0, 1) := by decide +kernel
theorem md_L_law_612 : decode mb_L_law 612 = .ok (.iload 4, 2) := by decide +kernel
theorem md_L_law_614 : decode mb_L_law 614 = .ok (.bipush 6, 2) := by decide +kernel
theorem md_L_law_616 : decode mb_L_law 616 = .ok (.iadd, 1) := by decide +kernel
theorem md_L_law_617 : decode mb_L_law 617 = .ok (.iaload, 1) := by decide +kernel
theorem md_L_law_618 : decode mb_L_law 618 = .ok (.i2l, 1) := by decide +kernel
theorem md_L_law_619 : decode mb_L_law 619 = .ok (.ldc2_w 94, 3) := by decide +kernel
theorem md_L_law_622 : decode mb_L_law 622 = .ok (.land, 1) := by decide +kernel
theorem md_L_law_623 : decode mb_L_law 623 = .ok (.lor, 1) := by decide +kernel
theorem md_L_law_624 : decode mb_L_law 624 = .ok (.aload_n 0, 1) := by decide +kernel
theorem md_L_law_625 : decode mb_L_law 625 = .ok (.iload 4, 2) := by decide +kernel
theorem md_L_law_627 : decode mb_L_law 627 = .ok (.bipush 7, 2) := by decide +kernel
theorem md_L_law_629 : decode mb_L_law 629 = .ok (.iadd, 1) := by decide +kernel
theorem md_L_law_630 : decode mb_L_law 630 = .ok (.iaload, 1) := by decide +kernel
