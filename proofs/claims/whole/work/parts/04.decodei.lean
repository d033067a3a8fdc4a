theorem d_LW_law_463 : decode b_LW_law 463 = .ok (.invokevirtual 59, 3) := by decide +kernel
theorem d_LW_law_466 : decode b_LW_law 466 = .ok (.aload_n 2, 1) := by decide +kernel
theorem d_LW_law_467 : decode b_LW_law 467 = .ok (.aload_n 0, 1) := by decide +kernel
theorem d_LW_law_468 : decode b_LW_law 468 = .ok (.iload_n 3, 1) := by decide +kernel
theorem d_LW_law_469 : decode b_LW_law 469 = .ok (.iconst 1, 1) := by decide +kernel
theorem d_LW_law_470 : decode b_LW_law 470 = .ok (.iadd, 1) := by decide +kernel
theorem d_LW_law_471 : decode b_LW_law 471 = .ok (.iaload, 1) := by decide +kernel
theorem d_LW_law_472 : decode b_LW_law 472 = .ok (.invokevirtual 62, 3) := by decide +kernel
theorem d_LW_law_475 : decode b_LW_law 475 = .ok (.if_icmp .eq 214, 3) := by decide +kernel
theorem d_LW_law_478 : decode b_LW_law 478 = .ok (.iconst 0, 1) := by decide +kernel
theorem d_LW_law_479 : decode b_LW_law 479 = .ok (.ireturn, 1) := by decide +kernel
theorem d_LW_law_480 : decode b_LW_law 480 = .ok (.aload_n 1, 1) := by decide +kernel
theorem d_LW_law_481 : decode b_LW_law 481 = .ok (.aload_n 0, 1) := by decide +kernel
theorem d_LW_law_482 : decode b_LW_law 482 = .ok (.iload_n 3, 1) := by decide +kernel
theorem d_LW_law_483 : decode b_LW_law 483 = .ok (.iconst 1, 1) := by decide +kernel
theorem d_LW_law_484 : decode b_LW_law 484 = .ok (.iadd, 1) := by decide +kernel
theorem d_LW_law_485 : decode b_LW_law 485 = .ok (.iaload, 1) := by decide +kernel
theorem d_LW_law_486 : decode b_LW_law 486 = .ok (.aload_n 0, 1) := by decide +kernel
theorem d_LW_law_487 : decode b_LW_law 487 = .ok (.iload_n 3, 1) := by decide +kernel
theorem d_LW_law_488 : decode b_LW_law 488 = .ok (.iconst 2, 1) := by decide +kernel
theorem d_LW_law_489 : decode b_LW_law 489 = .ok (.iadd, 1) := by decide +kernel
theorem d_LW_law_490 : decode b_LW_law 490 = .ok (.iaload, 1) := by decide +kernel
theorem d_LW_law_491 : decode b_LW_law 491 = .ok (.invokevirtual 63, 3) := by decide +kernel
theorem d_LW_law_494 : decode b_LW_law 494 = .ok (.aload_n 2, 1) := by decide +kernel
theorem d_LW_law_495 : decode b_LW_law 495 = .ok (.aload_n 0, 1) := by decide +kernel
theorem d_LW_law_496 : decode b_LW_law 496 = .ok (.iload_n 3, 1) := by decide +kernel
theorem d_LW_law_497 : decode b_LW_law 497 = .ok (.iconst 1, 1) := by decide +kernel
theorem d_LW_law_498 : decode b_LW_law 498 = .ok (.iadd, 1) := by decide +kernel
theorem d_LW_law_499 : decode b_LW_law 499 = .ok (.iaload, 1) := by decide +kernel
theorem d_LW_law_500 : decode b_LW_law 500 = .ok (.aload_n 0, 1) := by decide +kernel
theorem d_LW_law_501 : decode b_LW_law 501 = .ok (.iload_n 3, 1) := by decide +kernel
theorem d_LW_law_502 : decode b_LW_law 502 = .ok (.iconst 2, 1) := by decide +kernel
theorem d_LW_law_503 : decode b_LW_law 503 = .ok (.iadd, 1) := by decide +kernel
theorem d_LW_law_504 : decode b_LW_law 504 = .ok (.iaload, 1) := by decide +kernel
theorem d_LW_law_505 : decode b_LW_law 505 = .ok (.invokevirtual 66, 3) := by decide +kernel
theorem d_LW_law_508 : decode b_LW_law 508 = .ok (.if_icmp .eq 181, 3) := by decide +kernel
theorem d_LW_law_511 : decode b_LW_law 511 = .ok (.iconst 0, 1) := by decide +kernel
theorem d_LW_law_512 : decode b_LW_law 512 = .ok (.ireturn, 1) := by decide +kernel
theorem d_LW_law_513 : decode b_LW_law 513 = .ok (.aload_n 1, 1) := by decide +kernel
theorem d_LW_law_514 : decode b_LW_law 514 = .ok (.aload_n 0, 1) := by decide +kernel
theorem d_LW_law_515 : decode b_LW_law 515 = .ok (.iload_n 3, 1) := by decide +kernel
theorem d_LW_law_516 : decode b_LW_law 516 = .ok (.iconst 1, 1) := by decide +kernel
theorem d_LW_law_517 : decode b_LW_law 517 = .ok (.iadd, 1) := by decide +kernel
theorem d_LW_law_518 : decode b_LW_law 518 = .ok (.iaload, 1) := by decide +kernel
theorem d_LW_law_519 : decode b_LW_law 519 = .ok (.aload_n 0, 1) := by decide +kernel
theorem d_LW_law_520 : decode b_LW_law 520 = .ok (.iload_n 3, 1) := by decide +kernel
theorem d_LW_law_521 : decode b_LW_law 521 = .ok (.iconst 2, 1) := by decide +kernel
theorem d_LW_law_522 : decode b_LW_law 522 = .ok (.iadd, 1) := by decide +kernel
theorem d_LW_law_523 : decode b_LW_law 523 = .ok (.iaload, 1) := by decide +kernel
theorem d_LW_law_524 : decode b_LW_law 524 = .ok (.aload_n 0, 1) := by decide +kernel
theorem d_LW_law_525 : decode b_LW_law 525 = .ok (.iload_n 3, 1) := by decide +kernel
theorem d_LW_law_526 : decode b_LW_law 526 = .ok (.iconst 3, 1) := by decide +kernel
theorem d_LW_law_527 : decode b_LW_law 527 = .ok (.iadd, 1) := by decide +kernel
theorem d_LW_law_528 : decode b_LW_law 528 = .ok (.iaload, 1) := by decide +kernel
theorem d_LW_law_529 : decode b_LW_law 529 = .ok (.invokevirtual 67, 3) := by decide +kernel
theorem d_LW_law_532 : decode b_LW_law 532 = .ok (.aload_n 2, 1) := by decide +kernel
theorem d_LW_law_533 : decode b_LW_law 533 = .ok (.aload_n 0, 1) := by decide +kernel
theorem d_LW_law_534 : decode b_LW_law 534 = .ok (.iload_n 3, 1) := by decide +kernel
theorem d_LW_law_535 : decode b_LW_law 535 = .ok (.iconst 1, 1) := by decide +kernel
theorem d_LW_law_536 : decode b_LW_law 536 = .ok (.iadd, 1) := by decide +kernel
theorem d_LW_law_537 : decode b_LW_law 537 = .ok (.iaload, 1) := by decide +kernel
theorem d_LW_law_538 : decode b_LW_law 538 = .ok (.aload_n 0, 1) := by decide +kernel
theorem d_LW_law_539 : decode b_LW_law 539 = .ok (.iload_n 3, 1) := by decide +kernel
theorem d_LW_law_540 : decode b_LW_law 540 = .ok (.iconst 2, 1) := by decide +kernel
theorem d_LW_law_541 : decode b_LW_law 541 = .ok (.iadd, 1) := by decide +kernel
theorem d_LW_law_542 : decode b_LW_law 542 = .ok (.iaload, 1) := by decide +kernel
theorem d_LW_law_543 : decode b_LW_law 543 = .ok (.aload_n 0, 1) := by decide +kernel
theorem d_LW_law_544 : decode b_LW_law 544 = .ok (.iload_n 3, 1) := by decide +kernel
theorem d_LW_law_545 : decode b_LW_law 545 = .ok (.iconst 3, 1) := by decide +kernel
theorem d_LW_law_546 : decode b_LW_law 546 = .ok (.iadd, 1) := by decide +kernel
theorem d_LW_law_547 : decode b_LW_law 547 = .ok (.iaload, 1) := by decide +kernel
theorem d_LW_law_548 : decode b_LW_law 548 = .ok (.invokevirtual 70, 3) := by decide +kernel
theorem d_LW_law_551 : decode b_LW_law 551 = .ok (.if_icmp .eq 138, 3) := by decide +kernel
theorem d_LW_law_554 : decode b_LW_law 554 = .ok (.iconst 0, 1) := by decide +kernel
theorem d_LW_law_555 : decode b_LW_law 555 = .ok (.ireturn, 1) := by decide +kernel
theorem d_LW_law_556 : decode b_LW_law 556 = .ok (.aload_n 1, 1) := by decide +kernel
theorem d_LW_law_557 : decode b_LW_law 557 = .ok (.aload_n 0, 1) := by decide +kernel
theorem d_LW_law_558 : decode b_LW_law 558 = .ok (.iload_n 3, 1) := by decide +kernel
theorem d_LW_law_559 : decode b_LW_law 559 = .ok (.iconst 1, 1) := by decide +kernel
theorem d_LW_law_560 : decode b_LW_law 560 = .ok (.iadd, 1) := by decide +kernel
theorem d_LW_law_561 : decode b_LW_law 561 = .ok (.iaload, 1) := by decide +kernel
theorem d_LW_law_562 : decode b_LW_law 562 = .ok (.aload_n 0, 1) := by decide +kernel
theorem d_LW_law_563 : decode b_LW_law 563 = .ok (.iload_n 3, 1) := by decide +kernel
theorem d_LW_law_564 : decode b_LW_law 564 = .ok (.iconst 2, 1) := by decide +kernel
theorem d_LW_law_565 : decode b_LW_law 565 = .ok (.iadd, 1) := by decide +kernel
theorem d_LW_law_566 : decode b_LW_law 566 = .ok (.iaload, 1) := by decide +kernel
theorem d_LW_law_567 : decode b_LW_law 567 = .ok (.aload_n 0, 1) := by decide +kernel
theorem d_LW_law_568 : decode b_LW_law 568 = .ok (.iload_n 3, 1) := by decide +kernel
theorem d_LW_law_569 : decode b_LW_law 569 = .ok (.iconst 3, 1) := by decide +kernel
theorem d_LW_law_570 : decode b_LW_law 570 = .ok (.iadd, 1) := by decide +kernel
theorem d_LW_law_571 : decode b_LW_law 571 = .ok (.iaload, 1) := by decide +kernel
theorem d_LW_law_572 : decode b_LW_law 572 = .ok (.invokevirtual 71, 3) := by decide +kernel
theorem d_LW_law_575 : decode b_LW_law 575 = .ok (.aload_n 2, 1) := by decide +kernel
theorem d_LW_law_576 : decode b_LW_law 576 = .ok (.aload_n 0, 1) := by decide +kernel
theorem d_LW_law_577 : decode b_LW_law 577 = .ok (.iload_n 3, 1) := by decide +kernel
theorem d_LW_law_578 : decode b_LW_law 578 = .ok (.iconst 1, 1) := by decide +kernel
theorem d_LW_law_579 : decode b_LW_law 579 = .ok (.iadd, 1) := by decide +kernel
theorem d_LW_law_580 : decode b_LW_law 580 = .ok (.iaload, 1) := by decide +kernel
theorem d_LW_law_581 : decode b_LW_law 581 = .ok (.aload_n 0, 1) := by decide +kernel
theorem d_LW_law_582 : decode b_LW_law 582 = .ok (.iload_n 3, 1) := by decide +kernel
theorem d_LW_law_583 : decode b_LW_law 583 = .ok (.iconst 2, 1) := by decide +kernel
theorem d_LW_law_584 : decode b_LW_law 584 = .ok (.iadd, 1) := by decide +kernel
theorem d_LW_law_585 : decode b_LW_law 585 = .ok (.iaload, 1) := by decide +kernel
theorem d_LW_law_586 : decode b_LW_law 586 = .ok (.aload_n 0, 1) := by decide +kernel
theorem d_LW_law_587 : decode b_LW_law 587 = .ok (.iload_n 3, 1) := by decide +kernel
theorem d_LW_law_588 : decode b_LW_law 588 = .ok (.iconst 3, 1) := by decide +kernel
theorem d_LW_law_589 : decode b_LW_law 589 = .ok (.iadd, 1) := by decide +kernel
theorem d_LW_law_590 : decode b_LW_law 590 = .ok (.iaload, 1) := by decide +kernel
theorem d_LW_law_591 : decode b_LW_law 591 = .ok (.invokevirtual 75, 3) := by decide +kernel
theorem d_LW_law_594 : decode b_LW_law 594 = .ok (.lcmp, 1) := by decide +kernel
theorem d_LW_law_595 : decode b_LW_law 595 = .ok (.ifCond .eq 94, 3) := by decide +kernel
theorem d_LW_law_598 : decode b_LW_law 598 = .ok (.iconst 0, 1) := by decide +kernel
theorem d_LW_law_599 : decode b_LW_law 599 = .ok (.ireturn, 1) := by decide +kernel
theorem d_LW_law_600 : decode b_LW_law 600 = .ok (.aload_n 1, 1) := by decide +kernel
theorem d_LW_law_601 : decode b_LW_law 601 = .ok (.aload_n 0, 1) := by decide +kernel
theorem d_LW_law_602 : decode b_LW_law 602 = .ok (.iload_n 3, 1) := by decide +kernel
theorem d_LW_law_603 : decode b_LW_law 603 = .ok (.iconst 1, 1) := by decide +kernel
theorem d_LW_law_604 : decode b_LW_law 604 = .ok (.iadd, 1) := by decide +kernel
theorem d_LW_law_605 : decode b_LW_law 605 = .ok (.iaload, 1) := by decide +kernel
theorem d_LW_law_606 : decode b_LW_law 606 = .ok (.aload_n 0, 1) := by decide +kernel
theorem d_LW_law_607 : decode b_LW_law 607 = .ok (.iload_n 3, 1) := by decide +kernel
theorem d_LW_law_608 : decode b_LW_law 608 = .ok (.iconst 2, 1) := by decide +kernel
theorem d_LW_law_609 : decode b_LW_law 609 = .ok (.iadd, 1) := by decide +kernel
theorem d_LW_law_610 : decode b_LW_law 610 = .ok (.iaload, 1) := by decide +kernel
theorem d_LW_law_611 : decode b_LW_law 611 = .ok (.invokevirtual 76, 3) := by decide +kernel
theorem d_LW_law_614 : decode b_LW_law 614 = .ok (.aload_n 2, 1) := by decide +kernel
theorem d_LW_law_615 : decode b_LW_law 615 = .ok (.aload_n 0, 1) := by decide +kernel
theorem d_LW_law_616 : decode b_LW_law 616 = .ok (.iload_n 3, 1) := by decide +kernel
theorem d_LW_law_617 : decode b_LW_law 617 = .ok (.iconst 1, 1) := by decide +kernel
theorem d_LW_law_618 : decode b_LW_law 618 = .ok (.iadd, 1) := by decide +kernel
theorem d_LW_law_619 : decode b_LW_law 619 = .ok (.iaload, 1) := by decide +kernel
theorem d_LW_law_620 : decode b_LW_law 620 = .ok (.aload_n 0, 1) := by decide +kernel
theorem d_LW_law_621 : decode b_LW_law 621 = .ok (.iload_n 3, 1) := by decide +kernel
theorem d_LW_law_622 : decode b_LW_law 622 = .ok (.iconst 2, 1) := by decide +kernel
theorem d_LW_law_623 : decode b_LW_law 623 = .ok (.iadd, 1) := by decide +kernel
theorem d_LW_law_624 : decode b_LW_law 624 = .ok (.iaload, 1) := by decide +kernel
theorem d_LW_law_625 : decode b_LW_law 625 = .ok (.invokevirtual 79, 3) := by decide +kernel
theorem d_LW_law_628 : decode b_LW_law 628 = .ok (.if_icmp .eq 61, 3) := by decide +kernel
theorem d_LW_law_631 : decode b_LW_law 631 = .ok (.iconst 0, 1) := by decide +kernel
theorem d_LW_law_632 : decode b_LW_law 632 = .ok (.ireturn, 1) := by decide +kernel
theorem d_LW_law_633 : decode b_LW_law 633 = .ok (.aload_n 1, 1) := by decide +kernel
theorem d_LW_law_634 : decode b_LW_law 634 = .ok (.aload_n 0, 1) := by decide +kernel
theorem d_LW_law_635 : decode b_LW_law 635 = .ok (.iload_n 3, 1) := by decide +kernel
theorem d_LW_law_636 : decode b_LW_law 636 = .ok (.iconst 1, 1) := by decide +kernel
theorem d_LW_law_637 : decode b_LW_law 637 = .ok (.iadd, 1) := by decide +kernel
theorem d_LW_law_638 : decode b_LW_law 638 = .ok (.iaload, 1) := by decide +kernel
theorem d_LW_law_639 : decode b_LW_law 639 = .ok (.aload_n 0, 1) := by decide +kernel
theorem d_LW_law_640 : decode b_LW_law 640 = .ok (.iload_n 3, 1) := by decide +kernel
theorem d_LW_law_641 : decode b_LW_law 641 = .ok (.iconst 2, 1) := by decide +kernel
theorem d_LW_law_642 : decode b_LW_law 642 = .ok (.iadd, 1) := by decide +kernel
theorem d_LW_law_643 : decode b_LW_law 643 = .ok (.iaload, 1) := by decide +kernel
theorem d_LW_law_644 : decode b_LW_law 644 = .ok (.invokevirtual 80, 3) := by decide +kernel
theorem d_LW_law_647 : decode b_LW_law 647 = .ok (.aload_n 2, 1) := by decide +kernel
theorem d_LW_law_648 : decode b_LW_law 648 = .ok (.aload_n 0, 1) := by decide +kernel
theorem d_LW_law_649 : decode b_LW_law 649 = .ok (.iload_n 3, 1) := by decide +kernel
theorem d_LW_law_650 : decode b_LW_law 650 = .ok (.iconst 1, 1) := by decide +kernel
theorem d_LW_law_651 : decode b_LW_law 651 = .ok (.iadd, 1) := by decide +kernel
theorem d_LW_law_652 : decode b_LW_law 652 = .ok (.iaload, 1) := by decide +kernel
theorem d_LW_law_653 : decode b_LW_law 653 = .ok (.aload_n 0, 1) := by decide +kernel
theorem d_LW_law_654 : decode b_LW_law 654 = .ok (.iload_n 3, 1) := by decide +kernel
theorem d_LW_law_655 : decode b_LW_law 655 = .ok (.iconst 2, 1) := by decide +kernel
theorem d_LW_law_656 : decode b_LW_law 656 = .ok (.iadd, 1) := by decide +kernel
theorem d_LW_law_657 : decode b_LW_law 657 = .ok (.iaload, 1) := by decide +kernel
theorem d_LW_law_658 : decode b_LW_law 658 = .ok (.invokevirtual 83, 3) := by decide +kernel
theorem d_LW_law_661 : decode b_LW_law 661 = .ok (.if_icmp .eq 28, 3) := by decide +kernel
theorem d_LW_law_664 : decode b_LW_law 664 = .ok (.iconst 0, 1) := by decide +kernel
theorem d_LW_law_665 : decode b_LW_law 665 = .ok (.ireturn, 1) := by decide +kernel
theorem d_LW_law_666 : decode b_LW_law 666 = .ok (.aload_n 1, 1) := by decide +kernel
theorem d_LW_law_667 : decode b_LW_law 667 = .ok (.aload_n 0, 1) := by decide +kernel
theorem d_LW_law_668 : decode b_LW_law 668 = .ok (.iload_n 3, 1) := by decide +kernel
theorem d_LW_law_669 : decode b_LW_law 669 = .ok (.iconst 1, 1) := by decide +kernel
theorem d_LW_law_670 : decode b_LW_law 670 = .ok (.iadd, 1) := by decide +kernel
theorem d_LW_law_671 : decode b_LW_law 671 = .ok (.iaload, 1) := by decide +kernel
theorem d_LW_law_672 : decode b_LW_law 672 = .ok (.invokevirtual 84, 3) := by decide +kernel
theorem d_LW_law_675 : decode b_LW_law 675 = .ok (.aload_n 2, 1) := by decide +kernel
theorem d_LW_law_676 : decode b_LW_law 676 = .ok (.aload_n 0, 1) := by decide +kernel
theorem d_LW_law_677 : decode b_LW_law 677 = .ok (.iload_n 3, 1) := by decide +kernel
theorem d_LW_law_678 : decode b_LW_law 678 = .ok (.iconst 1, 1) := by decide +kernel
theorem d_LW_law_679 : decode b_LW_law 679 = .ok (.iadd, 1) := by decide +kernel
theorem d_LW_law_680 : decode b_LW_law 680 = .ok (.iaload, 1) := by decide +kernel
theorem d_LW_law_681 : decode b_LW_law 681 = .ok (.invokevirtual 87, 3) := by decide +kernel
theorem d_LW_law_684 : decode b_LW_law 684 = .ok (.if_icmp .eq 5, 3) := by decide +kernel
theorem d_LW_law_687 : decode b_LW_law 687 = .ok (.iconst 0, 1) := by decide +kernel
theorem d_LW_law_688 : decode b_LW_law 688 = .ok (.ireturn, 1) := by decide +kernel
theorem d_LW_law_689 : decode b_LW_law 689 = .ok (.iinc 3 5, 3) := by decide +kernel
theorem d_LW_law_692 : decode b_LW_law 692 = .ok (.goto (-674), 3) := by decide +kernel
theorem d_LW_law_695 : decode b_LW_law 695 = .ok (.iconst 1, 1) := by decide +kernel
theorem d_LW_law_696 : decode b_LW_law 696 = .ok (.ireturn, 1) := by decide +kernel
