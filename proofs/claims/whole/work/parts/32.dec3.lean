theorem dL_law_478 : decode code 478 = .ok (.iconst 0, 1) := by decide +kernel
theorem dL_law_479 : decode code 479 = .ok (.invokevirtual 58, 3) := by decide +kernel
theorem dL_law_482 : decode code 482 = .ok (.aload_n 2, 1) := by decide +kernel
theorem dL_law_483 : decode code 483 = .ok (.aload_n 0, 1) := by decide +kernel
theorem dL_law_484 : decode code 484 = .ok (.iload_n 3, 1) := by decide +kernel
theorem dL_law_485 : decode code 485 = .ok (.iconst 1, 1) := by decide +kernel
theorem dL_law_486 : decode code 486 = .ok (.iadd, 1) := by decide +kernel
theorem dL_law_487 : decode code 487 = .ok (.iaload, 1) := by decide +kernel
theorem dL_law_488 : decode code 488 = .ok (.aload_n 0, 1) := by decide +kernel
theorem dL_law_489 : decode code 489 = .ok (.iload_n 3, 1) := by decide +kernel
theorem dL_law_490 : decode code 490 = .ok (.iconst 2, 1) := by decide +kernel
theorem dL_law_491 : decode code 491 = .ok (.iadd, 1) := by decide +kernel
theorem dL_law_492 : decode code 492 = .ok (.iaload, 1) := by decide +kernel
theorem dL_law_493 : decode code 493 = .ok (.aload_n 0, 1) := by decide +kernel
theorem dL_law_494 : decode code 494 = .ok (.iload_n 3, 1) := by decide +kernel
theorem dL_law_495 : decode code 495 = .ok (.iconst 3, 1) := by decide +kernel
theorem dL_law_496 : decode code 496 = .ok (.iadd, 1) := by decide +kernel
theorem dL_law_497 : decode code 497 = .ok (.iaload, 1) := by decide +kernel
theorem dL_law_498 : decode code 498 = .ok (.ifCond .eq 7, 3) := by decide +kernel
theorem dL_law_501 : decode code 501 = .ok (.iconst 1, 1) := by decide +kernel
theorem dL_law_502 : decode code 502 = .ok (.goto 4, 3) := by decide +kernel
theorem dL_law_505 : decode code 505 = .ok (.iconst 0, 1) := by decide +kernel
theorem dL_law_506 : decode code 506 = .ok (.invokevirtual 62, 3) := by decide +kernel
theorem dL_law_509 : decode code 509 = .ok (.if_icmp .eq 345, 3) := by decide +kernel
theorem dL_law_512 : decode code 512 = .ok (.iconst 0, 1) := by decide +kernel
theorem dL_law_513 : decode code 513 = .ok (.ireturn, 1) := by decide +kernel
theorem dL_law_514 : decode code 514 = .ok (.aload_n 1, 1) := by decide +kernel
theorem dL_law_515 : decode code 515 = .ok (.invokevirtual 63, 3) := by decide +kernel
theorem dL_law_518 : decode code 518 = .ok (.aload_n 2, 1) := by decide +kernel
theorem dL_law_519 : decode code 519 = .ok (.invokevirtual 66, 3) := by decide +kernel
theorem dL_law_522 : decode code 522 = .ok (.if_icmp .eq 332, 3) := by decide +kernel
theorem dL_law_525 : decode code 525 = .ok (.iconst 0, 1) := by decide +kernel
theorem dL_law_526 : decode code 526 = .ok (.ireturn, 1) := by decide +kernel
theorem dL_law_527 : decode code 527 = .ok (.aload_n 1, 1) := by decide +kernel
theorem dL_law_528 : decode code 528 = .ok (.aload_n 0, 1) := by decide +kernel
theorem dL_law_529 : decode code 529 = .ok (.iload_n 3, 1) := by decide +kernel
theorem dL_law_530 : decode code 530 = .ok (.iconst 1, 1) := by decide +kernel
theorem dL_law_531 : decode code 531 = .ok (.iadd, 1) := by decide +kernel
theorem dL_law_532 : decode code 532 = .ok (.iaload, 1) := by decide +kernel
theorem dL_law_533 : decode code 533 = .ok (.aload_n 0, 1) := by decide +kernel
theorem dL_law_534 : decode code 534 = .ok (.iload_n 3, 1) := by decide +kernel
theorem dL_law_535 : decode code 535 = .ok (.iconst 2, 1) := by decide +kernel
theorem dL_law_536 : decode code 536 = .ok (.iadd, 1) := by decide +kernel
theorem dL_law_537 : decode code 537 = .ok (.iaload, 1) := by decide +kernel
theorem dL_law_538 : decode code 538 = .ok (.invokevirtual 67, 3) := by decide +kernel
theorem dL_law_541 : decode code 541 = .ok (.aload_n 2, 1) := by decide +kernel
theorem dL_law_542 : decode code 542 = .ok (.aload_n 0, 1) := by decide +kernel
theorem dL_law_543 : decode code 543 = .ok (.iload_n 3, 1) := by decide +kernel
theorem dL_law_544 : decode code 544 = .ok (.iconst 1, 1) := by decide +kernel
theorem dL_law_545 : decode code 545 = .ok (.iadd, 1) := by decide +kernel
theorem dL_law_546 : decode code 546 = .ok (.iaload, 1) := by decide +kernel
theorem dL_law_547 : decode code 547 = .ok (.aload_n 0, 1) := by decide +kernel
theorem dL_law_548 : decode code 548 = .ok (.iload_n 3, 1) := by decide +kernel
theorem dL_law_549 : decode code 549 = .ok (.iconst 2, 1) := by decide +kernel
theorem dL_law_550 : decode code 550 = .ok (.iadd, 1) := by decide +kernel
theorem dL_law_551 : decode code 551 = .ok (.iaload, 1) := by decide +kernel
theorem dL_law_552 : decode code 552 = .ok (.invokevirtual 70, 3) := by decide +kernel
theorem dL_law_555 : decode code 555 = .ok (.if_icmp .eq 299, 3) := by decide +kernel
theorem dL_law_558 : decode code 558 = .ok (.iconst 0, 1) := by decide +kernel
theorem dL_law_559 : decode code 559 = .ok (.ireturn, 1) := by decide +kernel
theorem dL_law_560 : decode code 560 = .ok (.aload_n 1, 1) := by decide +kernel
theorem dL_law_561 : decode code 561 = .ok (.aload_n 0, 1) := by decide +kernel
theorem dL_law_562 : decode code 562 = .ok (.iload_n 3, 1) := by decide +kernel
theorem dL_law_563 : decode code 563 = .ok (.iconst 1, 1) := by decide +kernel
theorem dL_law_564 : decode code 564 = .ok (.iadd, 1) := by decide +kernel
theorem dL_law_565 : decode code 565 = .ok (.iaload, 1) := by decide +kernel
theorem dL_law_566 : decode code 566 = .ok (.aload_n 0, 1) := by decide +kernel
theorem dL_law_567 : decode code 567 = .ok (.iload_n 3, 1) := by decide +kernel
theorem dL_law_568 : decode code 568 = .ok (.iconst 2, 1) := by decide +kernel
theorem dL_law_569 : decode code 569 = .ok (.iadd, 1) := by decide +kernel
theorem dL_law_570 : decode code 570 = .ok (.iaload, 1) := by decide +kernel
theorem dL_law_571 : decode code 571 = .ok (.aload_n 0, 1) := by decide +kernel
theorem dL_law_572 : decode code 572 = .ok (.iload_n 3, 1) := by decide +kernel
theorem dL_law_573 : decode code 573 = .ok (.iconst 3, 1) := by decide +kernel
theorem dL_law_574 : decode code 574 = .ok (.iadd, 1) := by decide +kernel
theorem dL_law_575 : decode code 575 = .ok (.iaload, 1) := by decide +kernel
theorem dL_law_576 : decode code 576 = .ok (.invokevirtual 71, 3) := by decide +kernel
theorem dL_law_579 : decode code 579 = .ok (.aload_n 2, 1) := by decide +kernel
theorem dL_law_580 : decode code 580 = .ok (.aload_n 0, 1) := by decide +kernel
theorem dL_law_581 : decode code 581 = .ok (.iload_n 3, 1) := by decide +kernel
theorem dL_law_582 : decode code 582 = .ok (.iconst 1, 1) := by decide +kernel
theorem dL_law_583 : decode code 583 = .ok (.iadd, 1) := by decide +kernel
theorem dL_law_584 : decode code 584 = .ok (.iaload, 1) := by decide +kernel
theorem dL_law_585 : decode code 585 = .ok (.aload_n 0, 1) := by decide +kernel
theorem dL_law_586 : decode code 586 = .ok (.iload_n 3, 1) := by decide +kernel
theorem dL_law_587 : decode code 587 = .ok (.iconst 2, 1) := by decide +kernel
theorem dL_law_588 : decode code 588 = .ok (.iadd, 1) := by decide +kernel
theorem dL_law_589 : decode code 589 = .ok (.iaload, 1) := by decide +kernel
theorem dL_law_590 : decode code 590 = .ok (.aload_n 0, 1) := by decide +kernel
theorem dL_law_591 : decode code 591 = .ok (.iload_n 3, 1) := by decide +kernel
theorem dL_law_592 : decode code 592 = .ok (.iconst 3, 1) := by decide +kernel
theorem dL_law_593 : decode code 593 = .ok (.iadd, 1) := by decide +kernel
theorem dL_law_594 : decode code 594 = .ok (.iaload, 1) := by decide +kernel
theorem dL_law_595 : decode code 595 = .ok (.invokevirtual 74, 3) := by decide +kernel
theorem dL_law_598 : decode code 598 = .ok (.lcmp, 1) := by decide +kernel
theorem dL_law_599 : decode code 599 = .ok (.ifCond .eq 255, 3) := by decide +kernel
theorem dL_law_602 : decode code 602 = .ok (.iconst 0, 1) := by decide +kernel
theorem dL_law_603 : decode code 603 = .ok (.ireturn, 1) := by decide +kernel
theorem dL_law_604 : decode code 604 = .ok (.aload_n 1, 1) := by decide +kernel
theorem dL_law_605 : decode code 605 = .ok (.aload_n 0, 1) := by decide +kernel
theorem dL_law_606 : decode code 606 = .ok (.iload_n 3, 1) := by decide +kernel
theorem dL_law_607 : decode code 607 = .ok (.iconst 1, 1) := by decide +kernel
theorem dL_law_608 : decode code 608 = .ok (.iadd, 1) := by decide +kernel
theorem dL_law_609 : decode code 609 = .ok (.iaload, 1) := by decide +kernel
theorem dL_law_610 : decode code 610 = .ok (.invokevirtual 75, 3) := by decide +kernel
theorem dL_law_613 : decode code 613 = .ok (.aload_n 2, 1) := by decide +kernel
theorem dL_law_614 : decode code 614 = .ok (.aload_n 0, 1) := by decide +kernel
theorem dL_law_615 : decode code 615 = .ok (.iload_n 3, 1) := by decide +kernel
theorem dL_law_616 : decode code 616 = .ok (.iconst 1, 1) := by decide +kernel
theorem dL_law_617 : decode code 617 = .ok (.iadd, 1) := by decide +kernel
theorem dL_law_618 : decode code 618 = .ok (.iaload, 1) := by decide +kernel
theorem dL_law_619 : decode code 619 = .ok (.invokevirtual 78, 3) := by decide +kernel
theorem dL_law_622 : decode code 622 = .ok (.if_icmp .eq 232, 3) := by decide +kernel
theorem dL_law_625 : decode code 625 = .ok (.iconst 0, 1) := by decide +kernel
theorem dL_law_626 : decode code 626 = .ok (.ireturn, 1) := by decide +kernel
theorem dL_law_627 : decode code 627 = .ok (.aload_n 1, 1) := by decide +kernel
theorem dL_law_628 : decode code 628 = .ok (.aload_n 0, 1) := by decide +kernel
theorem dL_law_629 : decode code 629 = .ok (.iload_n 3, 1) := by decide +kernel
theorem dL_law_630 : decode code 630 = .ok (.iconst 1, 1) := by decide +kernel
theorem dL_law_631 : decode code 631 = .ok (.iadd, 1) := by decide +kernel
theorem dL_law_632 : decode code 632 = .ok (.iaload, 1) := by decide +kernel
theorem dL_law_633 : decode code 633 = .ok (.invokevirtual 79, 3) := by decide +kernel
theorem dL_law_636 : decode code 636 = .ok (.aload_n 2, 1) := by decide +kernel
theorem dL_law_637 : decode code 637 = .ok (.aload_n 0, 1) := by decide +kernel
theorem dL_law_638 : decode code 638 = .ok (.iload_n 3, 1) := by decide +kernel
theorem dL_law_639 : decode code 639 = .ok (.iconst 1, 1) := by decide +kernel
theorem dL_law_640 : decode code 640 = .ok (.iadd, 1) := by decide +kernel
theorem dL_law_641 : decode code 641 = .ok (.iaload, 1) := by decide +kernel
theorem dL_law_642 : decode code 642 = .ok (.invokevirtual 82, 3) := by decide +kernel
theorem dL_law_645 : decode code 645 = .ok (.if_icmp .eq 209, 3) := by decide +kernel
theorem dL_law_648 : decode code 648 = .ok (.iconst 0, 1) := by decide +kernel
theorem dL_law_649 : decode code 649 = .ok (.ireturn, 1) := by decide +kernel
theorem dL_law_650 : decode code 650 = .ok (.aload_n 1, 1) := by decide +kernel
theorem dL_law_651 : decode code 651 = .ok (.aload_n 0, 1) := by decide +kernel
theorem dL_law_652 : decode code 652 = .ok (.iload_n 3, 1) := by decide +kernel
theorem dL_law_653 : decode code 653 = .ok (.iconst 1, 1) := by decide +kernel
theorem dL_law_654 : decode code 654 = .ok (.iadd, 1) := by decide +kernel
theorem dL_law_655 : decode code 655 = .ok (.iaload, 1) := by decide +kernel
theorem dL_law_656 : decode code 656 = .ok (.invokevirtual 83, 3) := by decide +kernel
theorem dL_law_659 : decode code 659 = .ok (.aload_n 2, 1) := by decide +kernel
theorem dL_law_660 : decode code 660 = .ok (.aload_n 0, 1) := by decide +kernel
theorem dL_law_661 : decode code 661 = .ok (.iload_n 3, 1) := by decide +kernel
theorem dL_law_662 : decode code 662 = .ok (.iconst 1, 1) := by decide +kernel
theorem dL_law_663 : decode code 663 = .ok (.iadd, 1) := by decide +kernel
theorem dL_law_664 : decode code 664 = .ok (.iaload, 1) := by decide +kernel
theorem dL_law_665 : decode code 665 = .ok (.invokevirtual 86, 3) := by decide +kernel
