theorem kd_W_law_459 : decode kc_W_law 459 = .ok (.iaload, 1) := by decide +kernel
theorem kd_W_law_460 : decode kc_W_law 460 = .ok (.aload_n 0, 1) := by decide +kernel
theorem kd_W_law_461 : decode kc_W_law 461 = .ok (.iload 4, 2) := by decide +kernel
theorem kd_W_law_463 : decode kc_W_law 463 = .ok (.iconst 2, 1) := by decide +kernel
theorem kd_W_law_464 : decode kc_W_law 464 = .ok (.iadd, 1) := by decide +kernel
theorem kd_W_law_465 : decode kc_W_law 465 = .ok (.iaload, 1) := by decide +kernel
theorem kd_W_law_466 : decode kc_W_law 466 = .ok (.aload_n 0, 1) := by decide +kernel
theorem kd_W_law_467 : decode kc_W_law 467 = .ok (.iload 4, 2) := by decide +kernel
theorem kd_W_law_469 : decode kc_W_law 469 = .ok (.iconst 3, 1) := by decide +kernel
theorem kd_W_law_470 : decode kc_W_law 470 = .ok (.iadd, 1) := by decide +kernel
theorem kd_W_law_471 : decode kc_W_law 471 = .ok (.iaload, 1) := by decide +kernel
theorem kd_W_law_472 : decode kc_W_law 472 = .ok (.invokevirtual 130, 3) := by decide +kernel
theorem kd_W_law_475 : decode kc_W_law 475 = .ok (.istore 6, 2) := by decide +kernel
theorem kd_W_law_477 : decode kc_W_law 477 = .ok (.goto 944, 3) := by decide +kernel
theorem kd_W_law_480 : decode kc_W_law 480 = .ok (.aload_n 1, 1) := by decide +kernel
theorem kd_W_law_481 : decode kc_W_law 481 = .ok (.aload_n 0, 1) := by decide +kernel
theorem kd_W_law_482 : decode kc_W_law 482 = .ok (.iload 4, 2) := by decide +kernel
theorem kd_W_law_484 : decode kc_W_law 484 = .ok (.iconst 1, 1) := by decide +kernel
theorem kd_W_law_485 : decode kc_W_law 485 = .ok (.iadd, 1) := by decide +kernel
theorem kd_W_law_486 : decode kc_W_law 486 = .ok (.iaload, 1) := by decide +kernel
theorem kd_W_law_487 : decode kc_W_law 487 = .ok (.aload_n 0, 1) := by decide +kernel
theorem kd_W_law_488 : decode kc_W_law 488 = .ok (.iload 4, 2) := by decide +kernel
theorem kd_W_law_490 : decode kc_W_law 490 = .ok (.iconst 2, 1) := by decide +kernel
theorem kd_W_law_491 : decode kc_W_law 491 = .ok (.iadd, 1) := by decide +kernel
theorem kd_W_law_492 : decode kc_W_law 492 = .ok (.iaload, 1) := by decide +kernel
theorem kd_W_law_493 : decode kc_W_law 493 = .ok (.aload_n 0, 1) := by decide +kernel
theorem kd_W_law_494 : decode kc_W_law 494 = .ok (.iload 4, 2) := by decide +kernel
theorem kd_W_law_496 : decode kc_W_law 496 = .ok (.iconst 3, 1) := by decide +kernel
theorem kd_W_law_497 : decode kc_W_law 497 = .ok (.iadd, 1) := by decide +kernel
theorem kd_W_law_498 : decode kc_W_law 498 = .ok (.iaload, 1) := by decide +kernel
theorem kd_W_law_499 : decode kc_W_law 499 = .ok (.aload_n 0, 1) := by decide +kernel
theorem kd_W_law_500 : decode kc_W_law 500 = .ok (.iload 4, 2) := by decide +kernel
theorem kd_W_law_502 : decode kc_W_law 502 = .ok (.iconst 4, 1) := by decide +kernel
theorem kd_W_law_503 : decode kc_W_law 503 = .ok (.iadd, 1) := by decide +kernel
theorem kd_W_law_504 : decode kc_W_law 504 = .ok (.iaload, 1) := by decide +kernel
theorem kd_W_law_505 : decode kc_W_law 505 = .ok (.aload_n 0, 1) := by decide +kernel
theorem kd_W_law_506 : decode kc_W_law 506 = .ok (.iload 4, 2) := by decide +kernel
theorem kd_W_law_508 : decode kc_W_law 508 = .ok (.iconst 5, 1) := by decide +kernel
theorem kd_W_law_509 : decode kc_W_law 509 = .ok (.iadd, 1) := by decide +kernel
theorem kd_W_law_510 : decode kc_W_law 510 = .ok (.iaload, 1) := by decide +kernel
theorem kd_W_law_511 : decode kc_W_law 511 = .ok (.aload_n 0, 1) := by decide +kernel
theorem kd_W_law_512 : decode kc_W_law 512 = .ok (.iload 4, 2) := by decide +kernel
theorem kd_W_law_514 : decode kc_W_law 514 = .ok (.bipush 6, 2) := by decide +kernel
theorem kd_W_law_516 : decode kc_W_law 516 = .ok (.iadd, 1) := by decide +kernel
theorem kd_W_law_517 : decode kc_W_law 517 = .ok (.iaload, 1) := by decide +kernel
theorem kd_W_law_518 : decode kc_W_law 518 = .ok (.aload_n 3, 1) := by decide +kernel
theorem kd_W_law_519 : decode kc_W_law 519 = .ok (.invokestatic 131, 3) := by decide +kernel
theorem kd_W_law_522 : decode kc_W_law 522 = .ok (.istore 5, 2) := by decide +kernel
theorem kd_W_law_524 : decode kc_W_law 524 = .ok (.aload_n 2, 1) := by decide +kernel
theorem kd_W_law_525 : decode kc_W_law 525 = .ok (.aload_n 0, 1) := by decide +kernel
theorem kd_W_law_526 : decode kc_W_law 526 = .ok (.iload 4, 2) := by decide +kernel
theorem kd_W_law_528 : decode kc_W_law 528 = .ok (.iconst 1, 1) := by decide +kernel
theorem kd_W_law_529 : decode kc_W_law 529 = .ok (.iadd, 1) := by decide +kernel
theorem kd_W_law_530 : decode kc_W_law 530 = .ok (.iaload, 1) := by decide +kernel
theorem kd_W_law_531 : decode kc_W_law 531 = .ok (.aload_n 0, 1) := by decide +kernel
theorem kd_W_law_532 : decode kc_W_law 532 = .ok (.iload 4, 2) := by decide +kernel
theorem kd_W_law_534 : decode kc_W_law 534 = .ok (.iconst 2, 1) := by decide +kernel
theorem kd_W_law_535 : decode kc_W_law 535 = .ok (.iadd, 1) := by decide +kernel
theorem kd_W_law_536 : decode kc_W_law 536 = .ok (.iaload, 1) := by decide +kernel
theorem kd_W_law_537 : decode kc_W_law 537 = .ok (.aload_n 0, 1) := by decide +kernel
theorem kd_W_law_538 : decode kc_W_law 538 = .ok (.iload 4, 2) := by decide +kernel
theorem kd_W_law_540 : decode kc_W_law 540 = .ok (.iconst 3, 1) := by decide +kernel
theorem kd_W_law_541 : decode kc_W_law 541 = .ok (.iadd, 1) := by decide +kernel
theorem kd_W_law_542 : decode kc_W_law 542 = .ok (.iaload, 1) := by decide +kernel
theorem kd_W_law_543 : decode kc_W_law 543 = .ok (.aload_n 0, 1) := by decide +kernel
theorem kd_W_law_544 : decode kc_W_law 544 = .ok (.iload 4, 2) := by decide +kernel
theorem kd_W_law_546 : decode kc_W_law 546 = .ok (.iconst 4, 1) := by decide +kernel
theorem kd_W_law_547 : decode kc_W_law 547 = .ok (.iadd, 1) := by decide +kernel
theorem kd_W_law_548 : decode kc_W_law 548 = .ok (.iaload, 1) := by decide +kernel
theorem kd_W_law_549 : decode kc_W_law 549 = .ok (.aload_n 0, 1) := by decide +kernel
theorem kd_W_law_550 : decode kc_W_law 550 = .ok (.iload 4, 2) := by decide +kernel
theorem kd_W_law_552 : decode kc_W_law 552 = .ok (.iconst 5, 1) := by decide +kernel
theorem kd_W_law_553 : decode kc_W_law 553 = .ok (.iadd, 1) := by decide +kernel
theorem kd_W_law_554 : decode kc_W_law 554 = .ok (.iaload, 1) := by decide +kernel
theorem kd_W_law_555 : decode kc_W_law 555 = .ok (.aload_n 0, 1) := by decide +kernel
theorem kd_W_law_556 : decode kc_W_law 556 = .ok (.iload 4, 2) := by decide +kernel
theorem kd_W_law_558 : decode kc_W_law 558 = .ok (.bipush 6, 2) := by decide +kernel
theorem kd_W_law_560 : decode kc_W_law 560 = .ok (.iadd, 1) := by decide +kernel
theorem kd_W_law_561 : decode kc_W_law 561 = .ok (.iaload, 1) := by decide +kernel
theorem kd_W_law_562 : decode kc_W_law 562 = .ok (.invokevirtual 134, 3) := by decide +kernel
theorem kd_W_law_565 : decode kc_W_law 565 = .ok (.istore 6, 2) := by decide +kernel
theorem kd_W_law_567 : decode kc_W_law 567 = .ok (.aload_n 2, 1) := by decide +kernel
theorem kd_W_law_568 : decode kc_W_law 568 = .ok (.invokevirtual 135, 3) := by decide +kernel
theorem kd_W_law_571 : decode kc_W_law 571 = .ok (.iload 5, 2) := by decide +kernel
theorem kd_W_law_573 : decode kc_W_law 573 = .ok (.if_icmp .eq 5, 3) := by decide +kernel
theorem kd_W_law_576 : decode kc_W_law 576 = .ok (.iconst 0, 1) := by decide +kernel
theorem kd_W_law_577 : decode kc_W_law 577 = .ok (.ireturn, 1) := by decide +kernel
theorem kd_W_law_578 : decode kc_W_law 578 = .ok (.iload 5, 2) := by decide +kernel
theorem kd_W_law_580 : decode kc_W_law 580 = .ok (.ifCond .ne 15, 3) := by decide +kernel
theorem kd_W_law_583 : decode kc_W_law 583 = .ok (.aload_n 3, 1) := by decide +kernel
theorem kd_W_law_584 : decode kc_W_law 584 = .ok (.iconst 0, 1) := by decide +kernel
theorem kd_W_law_585 : decode kc_W_law 585 = .ok (.laload, 1) := by decide +kernel
theorem kd_W_law_586 : decode kc_W_law 586 = .ok (.iload 6, 2) := by decide +kernel
theorem kd_W_law_588 : decode kc_W_law 588 = .ok (.i2l, 1) := by decide +kernel
theorem kd_W_law_589 : decode kc_W_law 589 = .ok (.lcmp, 1) := by decide +kernel
theorem kd_W_law_590 : decode kc_W_law 590 = .ok (.ifCond .eq 5, 3) := by decide +kernel
theorem kd_W_law_593 : decode kc_W_law 593 = .ok (.iconst 0, 1) := by decide +kernel
theorem kd_W_law_594 : decode kc_W_law 594 = .ok (.ireturn, 1) := by decide +kernel
theorem kd_W_law_595 : decode kc_W_law 595 = .ok (.goto 826, 3) := by decide +kernel
theorem kd_W_law_598 : decode kc_W_law 598 = .ok (.aload_n 1, 1) := by decide +kernel
theorem kd_W_law_599 : decode kc_W_law 599 = .ok (.aload_n 0, 1) := by decide +kernel
theorem kd_W_law_600 : decode kc_W_law 600 = .ok (.iload 4, 2) := by decide +kernel
theorem kd_W_law_602 : decode kc_W_law 602 = .ok (.iconst 1, 1) := by decide +kernel
theorem kd_W_law_603 : decode kc_W_law 603 = .ok (.iadd, 1) := by decide +kernel
theorem kd_W_law_604 : decode kc_W_law 604 = .ok (.iaload, 1) := by decide +kernel
theorem kd_W_law_605 : decode kc_W_law 605 = .ok (.aload_n 3, 1) := by decide +kernel
theorem kd_W_law_606 : decode kc_W_law 606 = .ok (.invokestatic 139, 3) := by decide +kernel
theorem kd_W_law_609 : decode kc_W_law 609 = .ok (.istore 5, 2) := by decide +kernel
theorem kd_W_law_611 : decode kc_W_law 611 = .ok (.aload_n 2, 1) := by decide +kernel
theorem kd_W_law_612 : decode kc_W_law 612 = .ok (.aload_n 0, 1) := by decide +kernel
theorem kd_W_law_613 : decode kc_W_law 613 = .ok (.iload 4, 2) := by decide +kernel
theorem kd_W_law_615 : decode kc_W_law 615 = .ok (.iconst 1, 1) := by decide +kernel
theorem kd_W_law_616 : decode kc_W_law 616 = .ok (.iadd, 1) := by decide +kernel
theorem kd_W_law_617 : decode kc_W_law 617 = .ok (.iaload, 1) := by decide +kernel
theorem kd_W_law_618 : decode kc_W_law 618 = .ok (.invokevirtual 141, 3) := by decide +kernel
theorem kd_W_law_621 : decode kc_W_law 621 = .ok (.istore 6, 2) := by decide +kernel
theorem kd_W_law_623 : decode kc_W_law 623 = .ok (.goto 798, 3) := by decide +kernel
theorem kd_W_law_626 : decode kc_W_law 626 = .ok (.aload_n 1, 1) := by decide +kernel
theorem kd_W_law_627 : decode kc_W_law 627 = .ok (.aload_n 0, 1) := by decide +kernel
theorem kd_W_law_628 : decode kc_W_law 628 = .ok (.iload 4, 2) := by decide +kernel
theorem kd_W_law_630 : decode kc_W_law 630 = .ok (.iconst 1, 1) := by decide +kernel
theorem kd_W_law_631 : decode kc_W_law 631 = .ok (.iadd, 1) := by decide +kernel
theorem kd_W_law_632 : decode kc_W_law 632 = .ok (.iaload, 1) := by decide +kernel
theorem kd_W_law_633 : decode kc_W_law 633 = .ok (.aload_n 0, 1) := by decide +kernel
theorem kd_W_law_634 : decode kc_W_law 634 = .ok (.iload 4, 2) := by decide +kernel
theorem kd_W_law_636 : decode kc_W_law 636 = .ok (.iconst 2, 1) := by decide +kernel
theorem kd_W_law_637 : decode kc_W_law 637 = .ok (.iadd, 1) := by decide +kernel
theorem kd_W_law_638 : decode kc_W_law 638 = .ok (.iaload, 1) := by decide +kernel
theorem kd_W_law_639 : decode kc_W_law 639 = .ok (.aload_n 0, 1) := by decide +kernel
theorem kd_W_law_640 : decode kc_W_law 640 = .ok (.iload 4, 2) := by decide +kernel
theorem kd_W_law_642 : decode kc_W_law 642 = .ok (.iconst 3, 1) := by decide +kernel
theorem kd_W_law_643 : decode kc_W_law 643 = .ok (.iadd, 1) := by decide +kernel
theorem kd_W_law_644 : decode kc_W_law 644 = .ok (.iaload, 1) := by decide +kernel
theorem kd_W_law_645 : decode kc_W_law 645 = .ok (.aload_n 0, 1) := by decide +kernel
theorem kd_W_law_646 : decode kc_W_law 646 = .ok (.iload 4, 2) := by decide +kernel
theorem kd_W_law_648 : decode kc_W_law 648 = .ok (.iconst 4, 1) := by decide +kernel
theorem kd_W_law_649 : decode kc_W_law 649 = .ok (.iadd, 1) := by decide +kernel
theorem kd_W_law_650 : decode kc_W_law 650 = .ok (.iaload, 1) := by decide +kernel
theorem kd_W_law_651 : decode kc_W_law 651 = .ok (.aload_n 3, 1) := by decide +kernel
theorem kd_W_law_652 : decode kc_W_law 652 = .ok (.invokestatic 142, 3) := by decide +kernel
theorem kd_W_law_655 : decode kc_W_law 655 = .ok (.istore 5, 2) := by decide +kernel
theorem kd_W_law_657 : decode kc_W_law 657 = .ok (.aload_n 2, 1) := by decide +kernel
theorem kd_W_law_658 : decode kc_W_law 658 = .ok (.aload_n 0, 1) := by decide +kernel
theorem kd_W_law_659 : decode kc_W_law 659 = .ok (.iload 4, 2) := by decide +kernel
theorem kd_W_law_661 : decode kc_W_law 661 = .ok (.iconst 1, 1) := by decide +kernel
theorem kd_W_law_662 : decode kc_W_law 662 = .ok (.iadd, 1) := by decide +kernel
theorem kd_W_law_663 : decode kc_W_law 663 = .ok (.iaload, 1) := by decide +kernel
theorem kd_W_law_664 : decode kc_W_law 664 = .ok (.aload_n 0, 1) := by decide +kernel
theorem kd_W_law_665 : decode kc_W_law 665 = .ok (.iload 4, 2) := by decide +kernel
theorem kd_W_law_667 : decode kc_W_law 667 = .ok (.iconst 2, 1) := by decide +kernel
theorem kd_W_law_668 : decode kc_W_law 668 = .ok (.iadd, 1) := by decide +kernel
theorem kd_W_law_669 : decode kc_W_law 669 = .ok (.iaload, 1) := by decide +kernel
theorem kd_W_law_670 : decode kc_W_law 670 = .ok (.aload_n 0, 1) := by decide +kernel
theorem kd_W_law_671 : decode kc_W_law 671 = .ok (.iload 4, 2) := by decide +kernel
theorem kd_W_law_673 : decode kc_W_law 673 = .ok (.iconst 3, 1) := by decide +kernel
theorem kd_W_law_674 : decode kc_W_law 674 = .ok (.iadd, 1) := by decide +kernel
theorem kd_W_law_675 : decode kc_W_law 675 = .ok (.iaload, 1) := by decide +kernel
theorem kd_W_law_676 : decode kc_W_law 676 = .ok (.aload_n 0, 1) := by decide +kernel
theorem kd_W_law_677 : decode kc_W_law 677 = .ok (.iload 4, 2) := by decide +kernel
theorem kd_W_law_679 : decode kc_W_law 679 = .ok (.iconst 4, 1) := by decide +kernel
theorem kd_W_law_680 : decode kc_W_law 680 = .ok (.iadd, 1) := by decide +kernel
theorem kd_W_law_681 : decode kc_W_law 681 = .ok (.iaload, 1) := by decide +kernel
theorem kd_W_law_682 : decode kc_W_law 682 = .ok (.invokevirtual 144, 3) := by decide +kernel
theorem kd_W_law_685 : decode kc_W_law 685 = .ok (.istore 6, 2) := by decide +kernel
theorem kd_W_law_687 : decode kc_W_law 687 = .ok (.goto 734, 3) := by decide +kernel
theorem kd_W_law_690 : decode kc_W_law 690 = .ok (.aload_n 1, 1) := by decide +kernel
theorem kd_W_law_691 : decode kc_W_law 691 = .ok (.aload_n 0, 1) := by decide +kernel
theorem kd_W_law_692 : decode kc_W_law 692 = .ok (.iload 4, 2) := by decide +kernel
theorem kd_W_law_694 : decode kc_W_law 694 = .ok (.iconst 1, 1) := by decide +kernel
theorem kd_W_law_695 : decode kc_W_law 695 = .ok (.iadd, 1) := by decide +kernel
theorem kd_W_law_696 : decode kc_W_law 696 = .ok (.iaload, 1) := by decide +kernel
theorem kd_W_law_697 : decode kc_W_law 697 = .ok (.aload_n 0, 1) := by decide +kernel
theorem kd_W_law_698 : decode kc_W_law 698 = .ok (.iload 4, 2) := by decide +kernel
theorem kd_W_law_700 : decode kc_W_law 700 = .ok (.iconst 2, 1) := by decide +kernel
theorem kd_W_law_701 : decode kc_W_law 701 = .ok (.iadd, 1) := by decide +kernel
theorem kd_W_law_702 : decode kc_W_law 702 = .ok (.iaload, 1) := by decide +kernel
theorem kd_W_law_703 : decode kc_W_law 703 = .ok (.invokestatic 145, 3) := by decide +kernel
theorem kd_W_law_706 : decode kc_W_law 706 = .ok (.istore 5, 2) := by decide +kernel
theorem kd_W_law_708 : decode kc_W_law 708 = .ok (.aload_n 2, 1) := by decide +kernel
theorem kd_W_law_709 : decode kc_W_law 709 = .ok (.aload_n 0, 1) := by decide +kernel
theorem kd_W_law_710 : decode kc_W_law 710 = .ok (.iload 4, 2) := by decide +kernel
theorem kd_W_law_712 : decode kc_W_law 712 = .ok (.iconst 1, 1) := by decide +kernel
theorem kd_W_law_713 : decode kc_W_law 713 = .ok (.iadd, 1) := by decide +kernel
theorem kd_W_law_714 : decode kc_W_law 714 = .ok (.iaload, 1) := by decide +kernel
theorem kd_W_law_715 : decode kc_W_law 715 = .ok (.aload_n 0, 1) := by decide +kernel
theorem kd_W_law_716 : decode kc_W_law 716 = .ok (.iload 4, 2) := by decide +kernel
theorem kd_W_law_718 : decode kc_W_law 718 = .ok (.iconst 2, 1) := by decide +kernel
theorem kd_W_law_719 : decode kc_W_law 719 = .ok (.iadd, 1) := by decide +kernel
theorem kd_W_law_720 : decode kc_W_law 720 = .ok (.iaload, 1) := by decide +kernel
theorem kd_W_law_721 : decode kc_W_law 721 = .ok (.invokevirtual 148, 3) := by decide +kernel
theorem kd_W_law_724 : decode kc_W_law 724 = .ok (.goto 697, 3) := by decide +kernel
theorem kd_W_law_727 : decode kc_W_law 727 = .ok (.aload_n 1, 1) := by decide +kernel
theorem kd_W_law_728 : decode kc_W_law 728 = .ok (.aload_n 0, 1) := by decide +kernel
theorem kd_W_law_729 : decode kc_W_law 729 = .ok (.iload 4, 2) := by decide +kernel
theorem kd_W_law_731 : decode kc_W_law 731 = .ok (.iconst 1, 1) := by decide +kernel
theorem kd_W_law_732 : decode kc_W_law 732 = .ok (.iadd, 1) := by decide +kernel
theorem kd_W_law_733 : decode kc_W_law 733 = .ok (.iaload, 1) := by decide +kernel
theorem kd_W_law_734 : decode kc_W_law 734 = .ok (.aload_n 0, 1) := by decide +kernel
theorem kd_W_law_735 : decode kc_W_law 735 = .ok (.iload 4, 2) := by decide +kernel
theorem kd_W_law_737 : decode kc_W_law 737 = .ok (.iconst 2, 1) := by decide +kernel
theorem kd_W_law_738 : decode kc_W_law 738 = .ok (.iadd, 1) := by decide +kernel
theorem kd_W_law_739 : decode kc_W_law 739 = .ok (.iaload, 1) := by decide +kernel
theorem kd_W_law_740 : decode kc_W_law 740 = .ok (.aload_n 0, 1) := by decide +kernel
theorem kd_W_law_741 : decode kc_W_law 741 = .ok (.iload 4, 2) := by decide +kernel
theorem kd_W_law_743 : decode kc_W_law 743 = .ok (.iconst 3, 1) := by decide +kernel
theorem kd_W_law_744 : decode kc_W_law 744 = .ok (.iadd, 1) := by decide +kernel
theorem kd_W_law_745 : decode kc_W_law 745 = .ok (.iaload, 1) := by decide +kernel
theorem kd_W_law_746 : decode kc_W_law 746 = .ok (.invokestatic 149, 3) := by decide +kernel
theorem kd_W_law_749 : decode kc_W_law 749 = .ok (.istore 5, 2) := by decide +kernel
theorem kd_W_law_751 : decode kc_W_law 751 = .ok (.aload_n 2, 1) := by decide +kernel
theorem kd_W_law_752 : decode kc_W_law 752 = .ok (.aload_n 0, 1) := by decide +kernel
theorem kd_W_law_753 : decode kc_W_law 753 = .ok (.iload 4, 2) := by decide +kernel
theorem kd_W_law_755 : decode kc_W_law 755 = .ok (.iconst 1, 1) := by decide +kernel
theorem kd_W_law_756 : decode kc_W_law 756 = .ok (.iadd, 1) := by decide +kernel
theorem kd_W_law_757 : decode kc_W_law 757 = .ok (.iaload, 1) := by decide +kernel
theorem kd_W_law_758 : decode kc_W_law 758 = .ok (.aload_n 0, 1) := by decide +kernel
theorem kd_W_law_759 : decode kc_W_law 759 = .ok (.iload 4, 2) := by decide +kernel
theorem kd_W_law_761 : decode kc_W_law 761 = .ok (.iconst 2, 1) := by decide +kernel
theorem kd_W_law_762 : decode kc_W_law 762 = .ok (.iadd, 1) := by decide +kernel
theorem kd_W_law_763 : decode kc_W_law 763 = .ok (.iaload, 1) := by decide +kernel
theorem kd_W_law_764 : decode kc_W_law 764 = .ok (.aload_n 0, 1) := by decide +kernel
theorem kd_W_law_765 : decode kc_W_law 765 = .ok (.iload 4, 2) := by decide +kernel
theorem kd_W_law_767 : decode kc_W_law 767 = .ok (.iconst 3, 1) := by decide +kernel
theorem kd_W_law_768 : decode kc_W_law 768 = .ok (.iadd, 1) := by decide +kernel
theorem kd_W_law_769 : decode kc_W_law 769 = .ok (.iaload, 1) := by decide +kernel
theorem kd_W_law_770 : decode kc_W_law 770 = .ok (.invokevirtual 152, 3) := by decide +kernel
theorem kd_W_law_773 : decode kc_W_law 773 = .ok (.goto 648, 3) := by decide +kernel
theorem kd_W_law_776 : decode kc_W_law 776 = .ok (.aload_n 1, 1) := by decide +kernel
theorem kd_W_law_777 : decode kc_W_law 777 = .ok (.aload_n 0, 1) := by decide +kernel
theorem kd_W_law_778 : decode kc_W_law 778 = .ok (.iload 4, 2) := by decide +kernel
theorem kd_W_law_780 : decode kc_W_law 780 = .ok (.iconst 1, 1) := by decide +kernel
theorem kd_W_law_781 : decode kc_W_law 781 = .ok (.iadd, 1) := by decide +kernel
theorem kd_W_law_782 : decode kc_W_law 782 = .ok (.iaload, 1) := by decide +kernel
theorem kd_W_law_783 : decode kc_W_law 783 = .ok (.aload_n 0, 1) := by decide +kernel
theorem kd_W_law_784 : decode kc_W_law 784 = .ok (.iload 4, 2) := by decide +kernel
theorem kd_W_law_786 : decode kc_W_law 786 = .ok (.iconst 2, 1) := by decide +kernel
theorem kd_W_law_787 : decode kc_W_law 787 = .ok (.iadd, 1) := by decide +kernel
theorem kd_W_law_788 : decode kc_W_law 788 = .ok (.iaload, 1) := by decide +kernel
theorem kd_W_law_789 : decode kc_W_law 789 = .ok (.aload_n 3, 1) := by decide +kernel
theorem kd_W_law_790 : decode kc_W_law 790 = .ok (.invokestatic 153, 3) := by decide +kernel
theorem kd_W_law_793 : decode kc_W_law 793 = .ok (.istore 5, 2) := by decide +kernel
theorem kd_W_law_795 : decode kc_W_law 795 = .ok (.aload_n 2, 1) := by decide +kernel
theorem kd_W_law_796 : decode kc_W_law 796 = .ok (.aload_n 0, 1) := by decide +kernel
theorem kd_W_law_797 : decode kc_W_law 797 = .ok (.iload 4, 2) := by decide +kernel
theorem kd_W_law_799 : decode kc_W_law 799 = .ok (.iconst 1, 1) := by decide +kernel
theorem kd_W_law_800 : decode kc_W_law 800 = .ok (.iadd, 1) := by decide +kernel
theorem kd_W_law_801 : decode kc_W_law 801 = .ok (.iaload, 1) := by decide +kernel
theorem kd_W_law_802 : decode kc_W_law 802 = .ok (.aload_n 0, 1) := by decide +kernel
theorem kd_W_law_803 : decode kc_W_law 803 = .ok (.iload 4, 2) := by decide +kernel
theorem kd_W_law_805 : decode kc_W_law 805 = .ok (.iconst 2, 1) := by decide +kernel
