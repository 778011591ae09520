theorem kd_W_law_479 : decode kc_W_law 479 = .ok (.iadd, 1) := by decide +kernel
theorem kd_W_law_480 : decode kc_W_law 480 = .ok (.iaload, 1) := by decide +kernel
theorem kd_W_law_481 : decode kc_W_law 481 = .ok (.aload_n 3, 1) := by decide +kernel
theorem kd_W_law_482 : decode kc_W_law 482 = .ok (.invokestatic 128, 3) := by decide +kernel
theorem kd_W_law_485 : decode kc_W_law 485 = .ok (.istore 5, 2) := by decide +kernel
theorem kd_W_law_487 : decode kc_W_law 487 = .ok (.aload_n 2, 1) := by decide +kernel
theorem kd_W_law_488 : decode kc_W_law 488 = .ok (.aload_n 0, 1) := by decide +kernel
theorem kd_W_law_489 : decode kc_W_law 489 = .ok (.iload 4, 2) := by decide +kernel
theorem kd_W_law_491 : decode kc_W_law 491 = .ok (.iconst 1, 1) := by decide +kernel
theorem kd_W_law_492 : decode kc_W_law 492 = .ok (.iadd, 1) := by decide +kernel
theorem kd_W_law_493 : decode kc_W_law 493 = .ok (.iaload, 1) := by decide +kernel
theorem kd_W_law_494 : decode kc_W_law 494 = .ok (.aload_n 0, 1) := by decide +kernel
theorem kd_W_law_495 : decode kc_W_law 495 = .ok (.iload 4, 2) := by decide +kernel
theorem kd_W_law_497 : decode kc_W_law 497 = .ok (.iconst 2, 1) := by decide +kernel
theorem kd_W_law_498 : decode kc_W_law 498 = .ok (.iadd, 1) := by decide +kernel
theorem kd_W_law_499 : decode kc_W_law 499 = .ok (.iaload, 1) := by decide +kernel
theorem kd_W_law_500 : decode kc_W_law 500 = .ok (.aload_n 0, 1) := by decide +kernel
theorem kd_W_law_501 : decode kc_W_law 501 = .ok (.iload 4, 2) := by decide +kernel
theorem kd_W_law_503 : decode kc_W_law 503 = .ok (.iconst 3, 1) := by decide +kernel
theorem kd_W_law_504 : decode kc_W_law 504 = .ok (.iadd, 1) := by decide +kernel
theorem kd_W_law_505 : decode kc_W_law 505 = .ok (.iaload, 1) := by decide +kernel
theorem kd_W_law_506 : decode kc_W_law 506 = .ok (.aload_n 0, 1) := by decide +kernel
theorem kd_W_law_507 : decode kc_W_law 507 = .ok (.iload 4, 2) := by decide +kernel
theorem kd_W_law_509 : decode kc_W_law 509 = .ok (.iconst 4, 1) := by decide +kernel
theorem kd_W_law_510 : decode kc_W_law 510 = .ok (.iadd, 1) := by decide +kernel
theorem kd_W_law_511 : decode kc_W_law 511 = .ok (.iaload, 1) := by decide +kernel
theorem kd_W_law_512 : decode kc_W_law 512 = .ok (.aload_n 0, 1) := by decide +kernel
theorem kd_W_law_513 : decode kc_W_law 513 = .ok (.iload 4, 2) := by decide +kernel
theorem kd_W_law_515 : decode kc_W_law 515 = .ok (.iconst 5, 1) := by decide +kernel
theorem kd_W_law_516 : decode kc_W_law 516 = .ok (.iadd, 1) := by decide +kernel
theorem kd_W_law_517 : decode kc_W_law 517 = .ok (.iaload, 1) := by decide +kernel
theorem kd_W_law_518 : decode kc_W_law 518 = .ok (.aload_n 0, 1) := by decide +kernel
theorem kd_W_law_519 : decode kc_W_law 519 = .ok (.iload 4, 2) := by decide +kernel
theorem kd_W_law_521 : decode kc_W_law 521 = .ok (.bipush 6, 2) := by decide +kernel
theorem kd_W_law_523 : decode kc_W_law 523 = .ok (.iadd, 1) := by decide +kernel
theorem kd_W_law_524 : decode kc_W_law 524 = .ok (.iaload, 1) := by decide +kernel
theorem kd_W_law_525 : decode kc_W_law 525 = .ok (.aload_n 0, 1) := by decide +kernel
theorem kd_W_law_526 : decode kc_W_law 526 = .ok (.iload 4, 2) := by decide +kernel
theorem kd_W_law_528 : decode kc_W_law 528 = .ok (.bipush 7, 2) := by decide +kernel
theorem kd_W_law_530 : decode kc_W_law 530 = .ok (.iadd, 1) := by decide +kernel
theorem kd_W_law_531 : decode kc_W_law 531 = .ok (.iaload, 1) := by decide +kernel
theorem kd_W_law_532 : decode kc_W_law 532 = .ok (.invokevirtual 131, 3) := by decide +kernel
theorem kd_W_law_535 : decode kc_W_law 535 = .ok (.istore 6, 2) := by decide +kernel
theorem kd_W_law_537 : decode kc_W_law 537 = .ok (.aload_n 2, 1) := by decide +kernel
theorem kd_W_law_538 : decode kc_W_law 538 = .ok (.invokevirtual 113, 3) := by decide +kernel
theorem kd_W_law_541 : decode kc_W_law 541 = .ok (.iload 5, 2) := by decide +kernel
theorem kd_W_law_543 : decode kc_W_law 543 = .ok (.if_icmp .eq 5, 3) := by decide +kernel
theorem kd_W_law_546 : decode kc_W_law 546 = .ok (.iconst 0, 1) := by decide +kernel
theorem kd_W_law_547 : decode kc_W_law 547 = .ok (.ireturn, 1) := by decide +kernel
theorem kd_W_law_548 : decode kc_W_law 548 = .ok (.iload 5, 2) := by decide +kernel
theorem kd_W_law_550 : decode kc_W_law 550 = .ok (.ifCond .ne 15, 3) := by decide +kernel
theorem kd_W_law_553 : decode kc_W_law 553 = .ok (.aload_n 3, 1) := by decide +kernel
theorem kd_W_law_554 : decode kc_W_law 554 = .ok (.iconst 0, 1) := by decide +kernel
theorem kd_W_law_555 : decode kc_W_law 555 = .ok (.laload, 1) := by decide +kernel
theorem kd_W_law_556 : decode kc_W_law 556 = .ok (.iload 6, 2) := by decide +kernel
theorem kd_W_law_558 : decode kc_W_law 558 = .ok (.i2l, 1) := by decide +kernel
theorem kd_W_law_559 : decode kc_W_law 559 = .ok (.lcmp, 1) := by decide +kernel
theorem kd_W_law_560 : decode kc_W_law 560 = .ok (.ifCond .eq 5, 3) := by decide +kernel
theorem kd_W_law_563 : decode kc_W_law 563 = .ok (.iconst 0, 1) := by decide +kernel
theorem kd_W_law_564 : decode kc_W_law 564 = .ok (.ireturn, 1) := by decide +kernel
theorem kd_W_law_565 : decode kc_W_law 565 = .ok (.goto 1448, 3) := by decide +kernel
theorem kd_W_law_568 : decode kc_W_law 568 = .ok (.aload_n 1, 1) := by decide +kernel
theorem kd_W_law_569 : decode kc_W_law 569 = .ok (.aload_n 0, 1) := by decide +kernel
theorem kd_W_law_570 : decode kc_W_law 570 = .ok (.iload 4, 2) := by decide +kernel
theorem kd_W_law_572 : decode kc_W_law 572 = .ok (.iconst 1, 1) := by decide +kernel
theorem kd_W_law_573 : decode kc_W_law 573 = .ok (.iadd, 1) := by decide +kernel
theorem kd_W_law_574 : decode kc_W_law 574 = .ok (.iaload, 1) := by decide +kernel
theorem kd_W_law_575 : decode kc_W_law 575 = .ok (.aload_n 0, 1) := by decide +kernel
theorem kd_W_law_576 : decode kc_W_law 576 = .ok (.iload 4, 2) := by decide +kernel
theorem kd_W_law_578 : decode kc_W_law 578 = .ok (.iconst 2, 1) := by decide +kernel
theorem kd_W_law_579 : decode kc_W_law 579 = .ok (.iadd, 1) := by decide +kernel
theorem kd_W_law_580 : decode kc_W_law 580 = .ok (.iaload, 1) := by decide +kernel
theorem kd_W_law_581 : decode kc_W_law 581 = .ok (.aload_n 0, 1) := by decide +kernel
theorem kd_W_law_582 : decode kc_W_law 582 = .ok (.iload 4, 2) := by decide +kernel
theorem kd_W_law_584 : decode kc_W_law 584 = .ok (.iconst 3, 1) := by decide +kernel
theorem kd_W_law_585 : decode kc_W_law 585 = .ok (.iadd, 1) := by decide +kernel
theorem kd_W_law_586 : decode kc_W_law 586 = .ok (.iaload, 1) := by decide +kernel
theorem kd_W_law_587 : decode kc_W_law 587 = .ok (.aload_n 3, 1) := by decide +kernel
theorem kd_W_law_588 : decode kc_W_law 588 = .ok (.invokestatic 132, 3) := by decide +kernel
theorem kd_W_law_591 : decode kc_W_law 591 = .ok (.istore 5, 2) := by decide +kernel
theorem kd_W_law_593 : decode kc_W_law 593 = .ok (.aload_n 2, 1) := by decide +kernel
theorem kd_W_law_594 : decode kc_W_law 594 = .ok (.aload_n 0, 1) := by decide +kernel
theorem kd_W_law_595 : decode kc_W_law 595 = .ok (.iload 4, 2) := by decide +kernel
theorem kd_W_law_597 : decode kc_W_law 597 = .ok (.iconst 1, 1) := by decide +kernel
theorem kd_W_law_598 : decode kc_W_law 598 = .ok (.iadd, 1) := by decide +kernel
theorem kd_W_law_599 : decode kc_W_law 599 = .ok (.iaload, 1) := by decide +kernel
theorem kd_W_law_600 : decode kc_W_law 600 = .ok (.aload_n 0, 1) := by decide +kernel
theorem kd_W_law_601 : decode kc_W_law 601 = .ok (.iload 4, 2) := by decide +kernel
theorem kd_W_law_603 : decode kc_W_law 603 = .ok (.iconst 2, 1) := by decide +kernel
theorem kd_W_law_604 : decode kc_W_law 604 = .ok (.iadd, 1) := by decide +kernel
theorem kd_W_law_605 : decode kc_W_law 605 = .ok (.iaload, 1) := by decide +kernel
theorem kd_W_law_606 : decode kc_W_law 606 = .ok (.aload_n 0, 1) := by decide +kernel
theorem kd_W_law_607 : decode kc_W_law 607 = .ok (.iload 4, 2) := by decide +kernel
theorem kd_W_law_609 : decode kc_W_law 609 = .ok (.iconst 3, 1) := by decide +kernel
theorem kd_W_law_610 : decode kc_W_law 610 = .ok (.iadd, 1) := by decide +kernel
theorem kd_W_law_611 : decode kc_W_law 611 = .ok (.iaload, 1) := by decide +kernel
theorem kd_W_law_612 : decode kc_W_law 612 = .ok (.invokevirtual 134, 3) := by decide +kernel
theorem kd_W_law_615 : decode kc_W_law 615 = .ok (.istore 6, 2) := by decide +kernel
theorem kd_W_law_617 : decode kc_W_law 617 = .ok (.aload_n 2, 1) := by decide +kernel
theorem kd_W_law_618 : decode kc_W_law 618 = .ok (.invokevirtual 113, 3) := by decide +kernel
theorem kd_W_law_621 : decode kc_W_law 621 = .ok (.iload 5, 2) := by decide +kernel
theorem kd_W_law_623 : decode kc_W_law 623 = .ok (.if_icmp .eq 5, 3) := by decide +kernel
theorem kd_W_law_626 : decode kc_W_law 626 = .ok (.iconst 0, 1) := by decide +kernel
theorem kd_W_law_627 : decode kc_W_law 627 = .ok (.ireturn, 1) := by decide +kernel
theorem kd_W_law_628 : decode kc_W_law 628 = .ok (.iload 5, 2) := by decide +kernel
theorem kd_W_law_630 : decode kc_W_law 630 = .ok (.ifCond .ne 15, 3) := by decide +kernel
theorem kd_W_law_633 : decode kc_W_law 633 = .ok (.aload_n 3, 1) := by decide +kernel
theorem kd_W_law_634 : decode kc_W_law 634 = .ok (.iconst 0, 1) := by decide +kernel
theorem kd_W_law_635 : decode kc_W_law 635 = .ok (.laload, 1) := by decide +kernel
theorem kd_W_law_636 : decode kc_W_law 636 = .ok (.iload 6, 2) := by decide +kernel
theorem kd_W_law_638 : decode kc_W_law 638 = .ok (.i2l, 1) := by decide +kernel
theorem kd_W_law_639 : decode kc_W_law 639 = .ok (.lcmp, 1) := by decide +kernel
theorem kd_W_law_640 : decode kc_W_law 640 = .ok (.ifCond .eq 5, 3) := by decide +kernel
theorem kd_W_law_643 : decode kc_W_law 643 = .ok (.iconst 0, 1) := by decide +kernel
theorem kd_W_law_644 : decode kc_W_law 644 = .ok (.ireturn, 1) := by decide +kernel
theorem kd_W_law_645 : decode kc_W_law 645 = .ok (.goto 1368, 3) := by decide +kernel
theorem kd_W_law_648 : decode kc_W_law 648 = .ok (.aload_n 1, 1) := by decide +kernel
theorem kd_W_law_649 : decode kc_W_law 649 = .ok (.aload_n 0, 1) := by decide +kernel
theorem kd_W_law_650 : decode kc_W_law 650 = .ok (.iload 4, 2) := by decide +kernel
theorem kd_W_law_652 : decode kc_W_law 652 = .ok (.iconst 1, 1) := by decide +kernel
theorem kd_W_law_653 : decode kc_W_law 653 = .ok (.iadd, 1) := by decide +kernel
theorem kd_W_law_654 : decode kc_W_law 654 = .ok (.iaload, 1) := by decide +kernel
theorem kd_W_law_655 : decode kc_W_law 655 = .ok (.aload_n 0, 1) := by decide +kernel
theorem kd_W_law_656 : decode kc_W_law 656 = .ok (.iload 4, 2) := by decide +kernel
theorem kd_W_law_658 : decode kc_W_law 658 = .ok (.iconst 2, 1) := by decide +kernel
theorem kd_W_law_659 : decode kc_W_law 659 = .ok (.iadd, 1) := by decide +kernel
theorem kd_W_law_660 : decode kc_W_law 660 = .ok (.iaload, 1) := by decide +kernel
theorem kd_W_law_661 : decode kc_W_law 661 = .ok (.aload_n 0, 1) := by decide +kernel
theorem kd_W_law_662 : decode kc_W_law 662 = .ok (.iload 4, 2) := by decide +kernel
theorem kd_W_law_664 : decode kc_W_law 664 = .ok (.iconst 3, 1) := by decide +kernel
theorem kd_W_law_665 : decode kc_W_law 665 = .ok (.iadd, 1) := by decide +kernel
theorem kd_W_law_666 : decode kc_W_law 666 = .ok (.iaload, 1) := by decide +kernel
theorem kd_W_law_667 : decode kc_W_law 667 = .ok (.aload_n 0, 1) := by decide +kernel
theorem kd_W_law_668 : decode kc_W_law 668 = .ok (.iload 4, 2) := by decide +kernel
theorem kd_W_law_670 : decode kc_W_law 670 = .ok (.iconst 4, 1) := by decide +kernel
theorem kd_W_law_671 : decode kc_W_law 671 = .ok (.iadd, 1) := by decide +kernel
theorem kd_W_law_672 : decode kc_W_law 672 = .ok (.iaload, 1) := by decide +kernel
theorem kd_W_law_673 : decode kc_W_law 673 = .ok (.aload_n 0, 1) := by decide +kernel
theorem kd_W_law_674 : decode kc_W_law 674 = .ok (.iload 4, 2) := by decide +kernel
theorem kd_W_law_676 : decode kc_W_law 676 = .ok (.iconst 5, 1) := by decide +kernel
theorem kd_W_law_677 : decode kc_W_law 677 = .ok (.iadd, 1) := by decide +kernel
theorem kd_W_law_678 : decode kc_W_law 678 = .ok (.iaload, 1) := by decide +kernel
theorem kd_W_law_679 : decode kc_W_law 679 = .ok (.aload_n 0, 1) := by decide +kernel
theorem kd_W_law_680 : decode kc_W_law 680 = .ok (.iload 4, 2) := by decide +kernel
theorem kd_W_law_682 : decode kc_W_law 682 = .ok (.bipush 6, 2) := by decide +kernel
theorem kd_W_law_684 : decode kc_W_law 684 = .ok (.iadd, 1) := by decide +kernel
theorem kd_W_law_685 : decode kc_W_law 685 = .ok (.iaload, 1) := by decide +kernel
theorem kd_W_law_686 : decode kc_W_law 686 = .ok (.aload_n 3, 1) := by decide +kernel
theorem kd_W_law_687 : decode kc_W_law 687 = .ok (.invokestatic 135, 3) := by decide +kernel
theorem kd_W_law_690 : decode kc_W_law 690 = .ok (.istore 5, 2) := by decide +kernel
theorem kd_W_law_692 : decode kc_W_law 692 = .ok (.aload_n 2, 1) := by decide +kernel
theorem kd_W_law_693 : decode kc_W_law 693 = .ok (.aload_n 0, 1) := by decide +kernel
theorem kd_W_law_694 : decode kc_W_law 694 = .ok (.iload 4, 2) := by decide +kernel
theorem kd_W_law_696 : decode kc_W_law 696 = .ok (.iconst 1, 1) := by decide +kernel
theorem kd_W_law_697 : decode kc_W_law 697 = .ok (.iadd, 1) := by decide +kernel
theorem kd_W_law_698 : decode kc_W_law 698 = .ok (.iaload, 1) := by decide +kernel
theorem kd_W_law_699 : decode kc_W_law 699 = .ok (.aload_n 0, 1) := by decide +kernel
theorem kd_W_law_700 : decode kc_W_law 700 = .ok (.iload 4, 2) := by decide +kernel
theorem kd_W_law_702 : decode kc_W_law 702 = .ok (.iconst 2, 1) := by decide +kernel
theorem kd_W_law_703 : decode kc_W_law 703 = .ok (.iadd, 1) := by decide +kernel
theorem kd_W_law_704 : decode kc_W_law 704 = .ok (.iaload, 1) := by decide +kernel
theorem kd_W_law_705 : decode kc_W_law 705 = .ok (.aload_n 0, 1) := by decide +kernel
theorem kd_W_law_706 : decode kc_W_law 706 = .ok (.iload 4, 2) := by decide +kernel
theorem kd_W_law_708 : decode kc_W_law 708 = .ok (.iconst 3, 1) := by decide +kernel
theorem kd_W_law_709 : decode kc_W_law 709 = .ok (.iadd, 1) := by decide +kernel
theorem kd_W_law_710 : decode kc_W_law 710 = .ok (.iaload, 1) := by decide +kernel
theorem kd_W_law_711 : decode kc_W_law 711 = .ok (.aload_n 0, 1) := by decide +kernel
theorem kd_W_law_712 : decode kc_W_law 712 = .ok (.iload 4, 2) := by decide +kernel
theorem kd_W_law_714 : decode kc_W_law 714 = .ok (.iconst 4, 1) := by decide +kernel
theorem kd_W_law_715 : decode kc_W_law 715 = .ok (.iadd, 1) := by decide +kernel
theorem kd_W_law_716 : decode kc_W_law 716 = .ok (.iaload, 1) := by decide +kernel
theorem kd_W_law_717 : decode kc_W_law 717 = .ok (.aload_n 0, 1) := by decide +kernel
theorem kd_W_law_718 : decode kc_W_law 718 = .ok (.iload 4, 2) := by decide +kernel
theorem kd_W_law_720 : decode kc_W_law 720 = .ok (.iconst 5, 1) := by decide +kernel
theorem kd_W_law_721 : decode kc_W_law 721 = .ok (.iadd, 1) := by decide +kernel
theorem kd_W_law_722 : decode kc_W_law 722 = .ok (.iaload, 1) := by decide +kernel
theorem kd_W_law_723 : decode kc_W_law 723 = .ok (.aload_n 0, 1) := by decide +kernel
theorem kd_W_law_724 : decode kc_W_law 724 = .ok (.iload 4, 2) := by decide +kernel
theorem kd_W_law_726 : decode kc_W_law 726 = .ok (.bipush 6, 2) := by decide +kernel
theorem kd_W_law_728 : decode kc_W_law 728 = .ok (.iadd, 1) := by decide +kernel
theorem kd_W_law_729 : decode kc_W_law 729 = .ok (.iaload, 1) := by decide +kernel
theorem kd_W_law_730 : decode kc_W_law 730 = .ok (.invokevirtual 138, 3) := by decide +kernel
theorem kd_W_law_733 : decode kc_W_law 733 = .ok (.istore 6, 2) := by decide +kernel
theorem kd_W_law_735 : decode kc_W_law 735 = .ok (.aload_n 2, 1) := by decide +kernel
theorem kd_W_law_736 : decode kc_W_law 736 = .ok (.invokevirtual 113, 3) := by decide +kernel
theorem kd_W_law_739 : decode kc_W_law 739 = .ok (.iload 5, 2) := by decide +kernel
theorem kd_W_law_741 : decode kc_W_law 741 = .ok (.if_icmp .eq 5, 3) := by decide +kernel
theorem kd_W_law_744 : decode kc_W_law 744 = .ok (.iconst 0, 1) := by decide +kernel
theorem kd_W_law_745 : decode kc_W_law 745 = .ok (.ireturn, 1) := by decide +kernel
theorem kd_W_law_746 : decode kc_W_law 746 = .ok (.iload 5, 2) := by decide +kernel
theorem kd_W_law_748 : decode kc_W_law 748 = .ok (.ifCond .ne 15, 3) := by decide +kernel
theorem kd_W_law_751 : decode kc_W_law 751 = .ok (.aload_n 3, 1) := by decide +kernel
theorem kd_W_law_752 : decode kc_W_law 752 = .ok (.iconst 0, 1) := by decide +kernel
theorem kd_W_law_753 : decode kc_W_law 753 = .ok (.laload, 1) := by decide +kernel
theorem kd_W_law_754 : decode kc_W_law 754 = .ok (.iload 6, 2) := by decide +kernel
theorem kd_W_law_756 : decode kc_W_law 756 = .ok (.i2l, 1) := by decide +kernel
theorem kd_W_law_757 : decode kc_W_law 757 = .ok (.lcmp, 1) := by decide +kernel
theorem kd_W_law_758 : decode kc_W_law 758 = .ok (.ifCond .eq 5, 3) := by decide +kernel
theorem kd_W_law_761 : decode kc_W_law 761 = .ok (.iconst 0, 1) := by decide +kernel
theorem kd_W_law_762 : decode kc_W_law 762 = .ok (.ireturn, 1) := by decide +kernel
theorem kd_W_law_763 : decode kc_W_law 763 = .ok (.goto 1250, 3) := by decide +kernel
theorem kd_W_law_766 : decode kc_W_law 766 = .ok (.aload_n 1, 1) := by decide +kernel
theorem kd_W_law_767 : decode kc_W_law 767 = .ok (.aload_n 0, 1) := by decide +kernel
theorem kd_W_law_768 : decode kc_W_law 768 = .ok (.iload 4, 2) := by decide +kernel
theorem kd_W_law_770 : decode kc_W_law 770 = .ok (.iconst 1, 1) := by decide +kernel
theorem kd_W_law_771 : decode kc_W_law 771 = .ok (.iadd, 1) := by decide +kernel
theorem kd_W_law_772 : decode kc_W_law 772 = .ok (.iaload, 1) := by decide +kernel
theorem kd_W_law_773 : decode kc_W_law 773 = .ok (.aload_n 3, 1) := by decide +kernel
theorem kd_W_law_774 : decode kc_W_law 774 = .ok (.invokestatic 139, 3) := by decide +kernel
theorem kd_W_law_777 : decode kc_W_law 777 = .ok (.istore 5, 2) := by decide +kernel
theorem kd_W_law_779 : decode kc_W_law 779 = .ok (.aload_n 2, 1) := by decide +kernel
theorem kd_W_law_780 : decode kc_W_law 780 = .ok (.aload_n 0, 1) := by decide +kernel
theorem kd_W_law_781 : decode kc_W_law 781 = .ok (.iload 4, 2) := by decide +kernel
theorem kd_W_law_783 : decode kc_W_law 783 = .ok (.iconst 1, 1) := by decide +kernel
theorem kd_W_law_784 : decode kc_W_law 784 = .ok (.iadd, 1) := by decide +kernel
theorem kd_W_law_785 : decode kc_W_law 785 = .ok (.iaload, 1) := by decide +kernel
theorem kd_W_law_786 : decode kc_W_law 786 = .ok (.invokevirtual 141, 3) := by decide +kernel
theorem kd_W_law_789 : decode kc_W_law 789 = .ok (.istore 6, 2) := by decide +kernel
theorem kd_W_law_791 : decode kc_W_law 791 = .ok (.aload_n 2, 1) := by decide +kernel
theorem kd_W_law_792 : decode kc_W_law 792 = .ok (.invokevirtual 113, 3) := by decide +kernel
theorem kd_W_law_795 : decode kc_W_law 795 = .ok (.iload 5, 2) := by decide +kernel
theorem kd_W_law_797 : decode kc_W_law 797 = .ok (.if_icmp .eq 5, 3) := by decide +kernel
theorem kd_W_law_800 : decode kc_W_law 800 = .ok (.iconst 0, 1) := by decide +kernel
theorem kd_W_law_801 : decode kc_W_law 801 = .ok (.ireturn, 1) := by decide +kernel
theorem kd_W_law_802 : decode kc_W_law 802 = .ok (.iload 5, 2) := by decide +kernel
theorem kd_W_law_804 : decode kc_W_law 804 = .ok (.ifCond .ne 15, 3) := by decide +kernel
theorem kd_W_law_807 : decode kc_W_law 807 = .ok (.aload_n 3, 1) := by decide +kernel
theorem kd_W_law_808 : decode kc_W_law 808 = .ok (.iconst 0, 1) := by decide +kernel
theorem kd_W_law_809 : decode kc_W_law 809 = .ok (.laload, 1) := by decide +kernel
theorem kd_W_law_810 : decode kc_W_law 810 = .ok (.iload 6, 2) := by decide +kernel
theorem kd_W_law_812 : decode kc_W_law 812 = .ok (.i2l, 1) := by decide +kernel
theorem kd_W_law_813 : decode kc_W_law 813 = .ok (.lcmp, 1) := by decide +kernel
theorem kd_W_law_814 : decode kc_W_law 814 = .ok (.ifCond .eq 5, 3) := by decide +kernel
theorem kd_W_law_817 : decode kc_W_law 817 = .ok (.iconst 0, 1) := by decide +kernel
theorem kd_W_law_818 : decode kc_W_law 818 = .ok (.ireturn, 1) := by decide +kernel
theorem kd_W_law_819 : decode kc_W_law 819 = .ok (.goto 1194, 3) := by decide +kernel
theorem kd_W_law_822 : decode kc_W_law 822 = .ok (.aload_n 1, 1) := by decide +kernel
theorem kd_W_law_823 : decode kc_W_law 823 = .ok (.aload_n 0, 1) := by decide +kernel
theorem kd_W_law_824 : decode kc_W_law 824 = .ok (.iload 4, 2) := by decide +kernel
theorem kd_W_law_826 : decode kc_W_law 826 = .ok (.iconst 1, 1) := by decide +kernel
theorem kd_W_law_827 : decode kc_W_law 827 = .ok (.iadd, 1) := by decide +kernel
theorem kd_W_law_828 : decode kc_W_law 828 = .ok (.iaload, 1) := by decide +kernel
theorem kd_W_law_829 : decode kc_W_law 829 = .ok (.aload_n 0, 1) := by decide +kernel
theorem kd_W_law_830 : decode kc_W_law 830 = .ok (.iload 4, 2) := by decide +kernel
theorem kd_W_law_832 : decode kc_W_law 832 = .ok (.iconst 2, 1) := by decide +kernel
theorem kd_W_law_833 : decode kc_W_law 833 = .ok (.iadd, 1) := by decide +kernel
theorem kd_W_law_834 : decode kc_W_law 834 = .ok (.iaload, 1) := by decide +kernel
theorem kd_W_law_835 : decode kc_W_law 835 = .ok (.aload_n 0, 1) := by decide +kernel
theorem kd_W_law_836 : decode kc_W_law 836 = .ok (.iload 4, 2) := by decide +kernel
theorem kd_W_law_838 : decode kc_W_law 838 = .ok (.iconst 3, 1) := by decide +kernel
